theorem cmp_ne {x : Int64} (h : 0 < lg_cmp x 0) : ¬ x = 0 := fun e => by subst e; exact absurd h (by decide)
noncomputable def LX1_divide_14 (x0 : Int64) : Nat → ((Nat → Int32) × Int64 × Int32) → ((Nat → Int32) × Int64 × Int32)
  | 0, w_14 => w_14
  | n9 + 1, w_14 =>
    if w_14.2.2 < 0 then ((w_14.1, w_14.2.1, w_14.2.2)) else (let x_33 := ((w_14.2.1 * 10) + ((w_14.1 (w_14.2.2 : Int32).toNatClampNeg) : Int32).toInt64); let f_44 := upd w_14.1 (w_14.2.2 : Int32).toNatClampNeg (((x_33 / x0) : Int64).toInt32); let x_48 := (x_33 - x_33 / x0 * x0); let x_49 := w_14.2.2 + (-1); LX1_divide_14 x0 n9 (f_44, x_48, x_49))
noncomputable def fX1_divide (x0 : Int64) (v_dF : (Nat → Int32)) : (Int64 × (Nat → Int32)) :=
  if 0 < (lg_cmp (x0) (0)) then (let g_14 := LX1_divide_14 x0 (msD 31 + 1) (v_dF, 0, 31); (g_14.2.1, g_14.1)) else ((0, v_dF))
abbrev wX1_divide (cI cB : ClassId) (a_d a_dg : Nat) (v_below : Int32) (v_dF : (Nat → Int32)) : va_W := [(a_d, .inr (1, [.ref a_dg, .int v_below])), (a_dg, .inl (cI, 32, .inl v_dF))]
abbrev rmX1_divide : Room := { frames := 0, cells := 0, slots := 0, locals := 0 }
abbrev qX1_divide (D : va_G) (cI cB : ClassId) (a_d a_dg : Nat) (v_below : Int32) (v_dF : (Nat → Int32)) (x0 : Int64) : (Nat → Prop) → Array Value → State → Outcome → State → Prop := fun A9 => va_Ql (fun (r9 : Int64) (u9 : (Nat → Int32)) => r9 = (fX1_divide x0 v_dF).1 ∧ u9 = (fX1_divide x0 v_dF).2) (fun u9 t9 => atW D (TYS cI cB) A9 (wX1_divide cI cB a_d a_dg v_below u9) t9) A9
set_option maxHeartbeats 4000000 in
set_option maxRecDepth 100000 in
theorem kX1_divide (l : Launch) (D : va_G) (cI cB : ClassId) (a_d a_dg : Nat) (sz : Nat) (v_below : Int32) (v_dF : (Nat → Int32)) (x0 : Int64) : MetW l yX1_divide (WK yX1_divide cX1_divide 6 (some .long)) rmX1_divide D (TYS cI cB) (wX1_divide cI cB a_d a_dg v_below v_dF) sz [.ref a_d, .long x0] (qX1_divide D cI cB a_d a_dg v_below v_dF x0) 0 0 := by
  refine met_std (by decide) rfl (Nat.le_of_ble_eq_true rfl) ?_
  intro p e s m below meth c A ls H hx hb hr hml hown hts hlocks hA hP hK hD hS hNW hl
  have hl : lv_has ls 6 [(0, .ref a_d), (1, .long x0)] := hl
  have q_0 := hts _ (List.mem_cons_of_mem _ wd_163)
  have q_1 := hts _ (List.mem_cons_of_mem _ wd_129)
  refine lv_lload_n hx hb dX1_divide_0 rfl (lv_at hl 1 rfl) ?_
  refine lv_lconst (v := 0) hx hb dX1_divide_1 (by decide) ?_
  refine W.lcmp hx hb dX1_divide_2 ?_
  refine lv_if_gt (tgt := 8) hx hb dX1_divide_3 (by decide) (fun c_3 => ?_) (fun c_3 => ?_)
  · skip
    refine lv_lconst (v := 0) hx hb dX1_divide_8 (by decide) ?_
    refine lv_lstore_n (lv' := [(3, .long 0), (0, .ref a_d), (1, .long x0)]) hx hb dX1_divide_9 rfl hl (by decide) rfl (fun ls hl => ?_)
    refine lv_bipush (v := 31) hx hb dX1_divide_10 (by decide) ?_
    refine lv_istore (lv' := [(5, .int 31), (3, .long 0), (0, .ref a_d), (1, .long x0)]) hx hb dX1_divide_12 hl (by decide) rfl (fun ls hl => ?_)
    obtain ⟨g_14, eg_14⟩ : ∃ z : ((Nat → Int32) × Int64 × Int32), z = LX1_divide_14 x0 (msD 31 + 1) (v_dF, 0, 31) := ⟨_, rfl⟩
    have K_14_0 : ∀ (H : Heap) (locs : List Loc), va_P D vwCl (wX1_divide cI cB a_d a_dg v_below g_14.1) H → va_D A (wX1_divide cI cB a_d a_dg v_below g_14.1) → va_S A s.heap H locs → ∀ (ls : Array Slot), lv_has ls 6 [(0, .ref a_d), (1, .long x0), (3, .long g_14.2.1), (5, .int g_14.2.2)] → W p l e rmX1_divide s m ([.ref a_d, .long x0] : List Value).toArray below meth c H locs 0 0 (MQ below (qX1_divide D cI cB a_d a_dg v_below v_dF x0 A) ([.ref a_d, .long x0] : List Value).toArray s 0 0 A) (F0 m 55 ls []) := by
      intro H locs hP hD hS ls hl
      refine lv_lload_n hx hb dX1_divide_55 rfl (lv_at hl 2 rfl) ?_
      have hf9 : (g_14.2.1, g_14.1) = fX1_divide x0 v_dF := by simp only [fX1_divide, ← eg_14, if_pos c_3]
      exact W.lret hx hb hr (fun t9 ht9 hW9 => ⟨⟨g_14.2.1, g_14.1, rfl, ⟨by rw [← hf9], by rw [← hf9]⟩, ⟨by rw [ht9]; exact hP, va_K.moved hW9.alike hK, hD⟩⟩, hS.F ht9⟩) hS.2.2 dX1_divide_56
    have lp_14 : ∀ (n9 : Nat) (w_14 : ((Nat → Int32) × Int64 × Int32)), msD w_14.2.2 < n9 → w_14.2.2 ≤ 31 → LX1_divide_14 x0 n9 w_14 = g_14 → ∀ (H : Heap) (locs : List Loc), va_P D vwCl (wX1_divide cI cB a_d a_dg v_below w_14.1) H → va_D A (wX1_divide cI cB a_d a_dg v_below w_14.1) → va_S A s.heap H locs → ∀ (ls : Array Slot), lv_has ls 6 [(0, .ref a_d), (1, .long x0), (3, .long w_14.2.1), (5, .int w_14.2.2)] → W p l e rmX1_divide s m ([.ref a_d, .long x0] : List Value).toArray below meth c H locs 0 0 (MQ below (qX1_divide D cI cB a_d a_dg v_below v_dF x0 A) ([.ref a_d, .long x0] : List Value).toArray s 0 0 A) (F0 m 14 ls []) := by
      intro n9
      induction n9 with
      | zero => intro w_14 hm9; exact absurd hm9 (Nat.not_lt_zero _)
      | succ n9 ih =>
        intro w_14 hm9 hI9 hL9 H locs hP hD hS ls hl
        have hI_14 := hI9
        refine lv_iload hx hb dX1_divide_14 (lv_at hl 3 rfl) ?_
        refine lv_if_lt (tgt := 55) hx hb dX1_divide_16 (by decide) (fun c_16 => ?_) (fun c_16 => ?_)
        · skip
          have hg9 : (w_14.1, w_14.2.1, w_14.2.2) = g_14 := by rw [← hL9]; simp only [LX1_divide_14, if_pos c_16]
          subst hg9
          exact K_14_0 _ _ hP hD hS ls (lv_sub hl [0, 1, 2, 3] rfl)
        · skip
          refine lv_lload_n hx hb dX1_divide_19 rfl (lv_at hl 2 rfl) ?_
          refine lv_ldc2 (v := 10) hx hb hown q_0 dX1_divide_20 ?_
          refine lv_lmul hx hb dX1_divide_23 ?_
          refine lv_aload_n hx hb dX1_divide_24 rfl (lv_at hl 0 rfl) ?_
          refine va_get (D := D) (ci := 1) (v := .ref a_dg) (C := RX1) (T := TX1) (N := 2) hx hb hts in_X1 hown hK hP 0 rfl rfl 0 (by decide) q_1 (fun _ h9 => h9) rfl dX1_divide_25 ?_
          refine lv_iload hx hb dX1_divide_28 (lv_at hl 3 rfl) ?_
          refine va_iald hx hb hK hP 1 0 rfl rfl (by first | with_reducible assumption | exact vin_of (b := 32) (by decide) (by with_reducible assumption) (by with_reducible assumption) | exact vin_of (b := 32) (by decide) (Int32.not_lt.mp (by with_reducible assumption)) (by with_reducible assumption) | exact vin_dn (by decide) (by with_reducible assumption) hI9) dX1_divide_30 ?_
          refine lv_i2l hx hb dX1_divide_31 rfl ?_
          refine lv_ladd hx hb dX1_divide_32 ?_
          refine lv_topl (fun x_33 ex_33 => ?_)
          refine lv_lstore_n (lv' := [(3, .long x_33), (0, .ref a_d), (1, .long x0), (5, .int w_14.2.2)]) hx hb dX1_divide_33 rfl hl (by decide) rfl (fun ls hl => ?_)
          refine lv_aload_n hx hb dX1_divide_34 rfl (lv_at hl 1 rfl) ?_
          refine va_get (D := D) (ci := 1) (v := .ref a_dg) (C := RX1) (T := TX1) (N := 2) hx hb hts in_X1 hown hK hP 0 rfl rfl 0 (by decide) q_1 (fun _ h9 => h9) rfl dX1_divide_35 ?_
          refine lv_iload hx hb dX1_divide_38 (lv_at hl 3 rfl) ?_
          refine lv_lload_n hx hb dX1_divide_40 rfl (lv_at hl 0 rfl) ?_
          refine lv_lload_n hx hb dX1_divide_41 rfl (lv_at hl 2 rfl) ?_
          refine lv_ldiv hx hb dX1_divide_42 (cmp_ne c_3) ?_
          refine lv_l2i hx hb dX1_divide_43 rfl ?_
          refine va_iast hx hb hK hP hD hS 1 0 rfl rfl (by first | with_reducible assumption | exact vin_of (b := 32) (by decide) (by with_reducible assumption) (by with_reducible assumption) | exact vin_of (b := 32) (by decide) (Int32.not_lt.mp (by with_reducible assumption)) (by with_reducible assumption) | exact vin_dn (by decide) (by with_reducible assumption) hI9) dX1_divide_44 (fun H locs hP hD hS => ?_)
          obtain ⟨f_44, ef_44⟩ : ∃ z : Nat → Int32, z = upd w_14.1 (w_14.2.2 : Int32).toNatClampNeg (((x_33 / x0) : Int64).toInt32) := ⟨_, rfl⟩
          have hP : va_P D vwCl (wX1_divide cI cB a_d a_dg v_below (upd w_14.1 (w_14.2.2 : Int32).toNatClampNeg (((x_33 / x0) : Int64).toInt32))) H := hP
          have hD : va_D A (wX1_divide cI cB a_d a_dg v_below (upd w_14.1 (w_14.2.2 : Int32).toNatClampNeg (((x_33 / x0) : Int64).toInt32))) := hD
          rw [← ef_44] at hP hD
          refine lv_lload_n hx hb dX1_divide_45 rfl (lv_at hl 0 rfl) ?_
          refine lv_lload_n hx hb dX1_divide_46 rfl (lv_at hl 2 rfl) ?_
          refine lv_lrem hx hb dX1_divide_47 (cmp_ne c_3) ?_
          refine lv_topl (fun x_48 ex_48 => ?_)
          refine lv_lstore_n (lv' := [(3, .long x_48), (0, .ref a_d), (1, .long x0), (5, .int w_14.2.2)]) hx hb dX1_divide_48 rfl hl (by decide) rfl (fun ls hl => ?_)
          obtain ⟨x_49, ex_49⟩ : ∃ z : Int32, z = w_14.2.2 + (-1) := ⟨_, rfl⟩
          refine lv_iinc (v := x_49) (lv' := [(5, .int x_49), (3, .long x_48), (0, .ref a_d), (1, .long x0)]) hx hb dX1_divide_49 hl (k := 3) rfl (by rw [ex_49]; rfl) (by decide) rfl (fun ls hl => ?_)
          refine lv_goto (tgt := 14) hx hb dX1_divide_52 (by decide) ?_
          exact ih (f_44, x_48, x_49) (by subst ex_49; subst ex_48; subst ef_44; subst ex_33;  exact Nat.lt_of_lt_of_le (ms_dn c_16) (Nat.le_of_lt_succ hm9)) (by subst ex_49; subst ex_48; subst ef_44; subst ex_33;  exact le_dn hI9 c_16) (by rw [← hL9]; subst ex_49; subst ex_48; subst ef_44; subst ex_33; simp only [LX1_divide_14, if_neg c_16]) _ _ hP hD hS ls (lv_sub hl [2, 3, 1, 0] rfl)
    exact lp_14 (msD 31 + 1) (v_dF, 0, 31) (Nat.lt_succ_self _) (by show (31 : Int32) ≤ 31; decide) eg_14.symm _ _ hP hD hS ls (lv_sub hl [2, 3, 1, 0] rfl)
  · skip
    refine lv_lconst (v := 0) hx hb dX1_divide_6 (by decide) ?_
    have hf9 : (0, v_dF) = fX1_divide x0 v_dF := by simp only [fX1_divide, if_neg c_3]
    exact W.lret hx hb hr (fun t9 ht9 hW9 => ⟨⟨0, v_dF, rfl, ⟨by rw [← hf9], by rw [← hf9]⟩, ⟨by rw [ht9]; exact hP, va_K.moved hW9.alike hK, hD⟩⟩, hS.F ht9⟩) hS.2.2 dX1_divide_7
theorem hdX1_divide : yX1_divide.cls = RX1 ∧ yX1_divide.cls ≠ "java/lang/invoke/MethodHandle" ∧ yX1_divide.cls ≠ "java/lang/invoke/VarHandle" ∧ (parseMethodDescriptor yX1_divide.desc).map (fun d => d.parameters.length) = some 1 := by decide +kernel
