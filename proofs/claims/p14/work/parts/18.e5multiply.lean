noncomputable def LX1_multiply_5 (x0 : Int64) : Nat → ((Nat → Int32) × Int64 × Int32) → ((Nat → Int32) × Int64 × Int32)
  | 0, w_5 => w_5
  | n9 + 1, w_5 =>
    if 32 ≤ w_5.2.2 then ((w_5.1, w_5.2.1, w_5.2.2)) else (let x_24 := ((((w_5.1 (w_5.2.2 : Int32).toNatClampNeg) : Int32).toInt64 * x0) + w_5.2.1); let f_39 := upd w_5.1 (w_5.2.2 : Int32).toNatClampNeg (((x_24 - x_24 / 10 * 10) : Int64).toInt32); let x_46 := (x_24 / 10); let x_47 := w_5.2.2 + 1; LX1_multiply_5 x0 n9 (f_39, x_46, x_47))
noncomputable def fX1_multiply (x0 : Int64) (v_dF : (Nat → Int32)) : (Nat → Int32) :=
  let g_5 := LX1_multiply_5 x0 (msU 32 0 + 1) (v_dF, 0, 0)
  g_5.1
abbrev wX1_multiply (cI cB : ClassId) (a_d a_dg : Nat) (v_below : Int32) (v_dF : (Nat → Int32)) : va_W := [(a_d, .inr (1, [.ref a_dg, .int v_below])), (a_dg, .inl (cI, 32, .inl v_dF))]
abbrev rmX1_multiply : Room := { frames := 0, cells := 0, slots := 0, locals := 0 }
abbrev qX1_multiply (D : va_G) (cI cB : ClassId) (a_d a_dg : Nat) (v_below : Int32) (v_dF : (Nat → Int32)) (x0 : Int64) : (Nat → Prop) → Array Value → State → Outcome → State → Prop := fun A9 => va_Qv (fun (u9 : (Nat → Int32)) => u9 = fX1_multiply x0 v_dF) (fun u9 t9 => atW D (TYS cI cB) A9 (wX1_multiply cI cB a_d a_dg v_below u9) t9) A9
set_option maxHeartbeats 4000000 in
set_option maxRecDepth 100000 in
theorem kX1_multiply (l : Launch) (D : va_G) (cI cB : ClassId) (a_d a_dg : Nat) (sz : Nat) (v_below : Int32) (v_dF : (Nat → Int32)) (x0 : Int64) : MetW l yX1_multiply (WK yX1_multiply cX1_multiply 8 none) rmX1_multiply D (TYS cI cB) (wX1_multiply cI cB a_d a_dg v_below v_dF) sz [.ref a_d, .long x0] (qX1_multiply D cI cB a_d a_dg v_below v_dF x0) 0 0 := by
  refine met_std (by decide) rfl (Nat.le_of_ble_eq_true rfl) ?_
  intro p e s m below meth c A ls H hx hb hr hml hown hts hlocks hA hP hK hD hS hNW hl
  have hl : lv_has ls 8 [(0, .ref a_d), (1, .long x0)] := hl
  have q_0 := hts _ (List.mem_cons_of_mem _ wd_129)
  have q_1 := hts _ (List.mem_cons_of_mem _ wd_163)
  refine lv_lconst (v := 0) hx hb dX1_multiply_0 (by decide) ?_
  refine lv_lstore_n (lv' := [(3, .long 0), (0, .ref a_d), (1, .long x0)]) hx hb dX1_multiply_1 rfl hl (by decide) rfl (fun ls hl => ?_)
  refine lv_iconst (v := 0) hx hb dX1_multiply_2 (by decide) ?_
  refine lv_istore (lv' := [(5, .int 0), (3, .long 0), (0, .ref a_d), (1, .long x0)]) hx hb dX1_multiply_3 hl (by decide) rfl (fun ls hl => ?_)
  obtain ⟨g_5, eg_5⟩ : ∃ z : ((Nat → Int32) × Int64 × Int32), z = LX1_multiply_5 x0 (msU 32 0 + 1) (v_dF, 0, 0) := ⟨_, rfl⟩
  have K_5_0 : ∀ (H : Heap) (locs : List Loc), va_P D vwCl (wX1_multiply cI cB a_d a_dg v_below g_5.1) H → va_D A (wX1_multiply cI cB a_d a_dg v_below g_5.1) → va_S A s.heap H locs → ∀ (ls : Array Slot), lv_has ls 8 [(0, .ref a_d), (1, .long x0), (3, .long g_5.2.1), (5, .int g_5.2.2)] → W p l e rmX1_multiply s m ([.ref a_d, .long x0] : List Value).toArray below meth c H locs 0 0 (MQ below (qX1_multiply D cI cB a_d a_dg v_below v_dF x0 A) ([.ref a_d, .long x0] : List Value).toArray s 0 0 A) (F0 m 53 ls []) := by
    intro H locs hP hD hS ls hl
    have hf9 : g_5.1 = fX1_multiply x0 v_dF := by simp only [fX1_multiply, ← eg_5]
    exact W.vret hx hb hr (fun t9 ht9 hW9 => ⟨⟨g_5.1, rfl, hf9, ⟨by rw [ht9]; exact hP, va_K.moved hW9.alike hK, hD⟩⟩, hS.F ht9⟩) hS.2.2 dX1_multiply_53
  have lp_5 : ∀ (n9 : Nat) (w_5 : ((Nat → Int32) × Int64 × Int32)), msU 32 w_5.2.2 < n9 → 0 ≤ w_5.2.2 → LX1_multiply_5 x0 n9 w_5 = g_5 → ∀ (H : Heap) (locs : List Loc), va_P D vwCl (wX1_multiply cI cB a_d a_dg v_below w_5.1) H → va_D A (wX1_multiply cI cB a_d a_dg v_below w_5.1) → va_S A s.heap H locs → ∀ (ls : Array Slot), lv_has ls 8 [(0, .ref a_d), (1, .long x0), (3, .long w_5.2.1), (5, .int w_5.2.2)] → W p l e rmX1_multiply s m ([.ref a_d, .long x0] : List Value).toArray below meth c H locs 0 0 (MQ below (qX1_multiply D cI cB a_d a_dg v_below v_dF x0 A) ([.ref a_d, .long x0] : List Value).toArray s 0 0 A) (F0 m 5 ls []) := by
    intro n9
    induction n9 with
    | zero => intro w_5 hm9; exact absurd hm9 (Nat.not_lt_zero _)
    | succ n9 ih =>
      intro w_5 hm9 hI9 hL9 H locs hP hD hS ls hl
      have hI_5 := hI9
      refine lv_iload hx hb dX1_multiply_5 (lv_at hl 3 rfl) ?_
      refine lv_bipush (v := 32) hx hb dX1_multiply_7 (by decide) ?_
      refine lv_icmp_ge (tgt := 53) hx hb dX1_multiply_9 (by decide) (fun c_9 => ?_) (fun c_9 => ?_)
      · skip
        have hg9 : (w_5.1, w_5.2.1, w_5.2.2) = g_5 := by rw [← hL9]; simp only [LX1_multiply_5, if_pos c_9]
        subst hg9
        exact K_5_0 _ _ hP hD hS ls (lv_sub hl [0, 1, 2, 3] rfl)
      · skip
        refine lv_aload_n hx hb dX1_multiply_12 rfl (lv_at hl 0 rfl) ?_
        refine va_get (D := D) (ci := 1) (v := .ref a_dg) (C := RX1) (T := TX1) (N := 2) hx hb hts in_X1 hown hK hP 0 rfl rfl 0 (by decide) q_0 (fun _ h9 => h9) rfl dX1_multiply_13 ?_
        refine lv_iload hx hb dX1_multiply_16 (lv_at hl 3 rfl) ?_
        refine va_iald hx hb hK hP 1 0 rfl rfl (by first | with_reducible assumption | exact vin_of (b := 32) (by decide) (by with_reducible assumption) (by with_reducible assumption) | exact vin_of (b := 32) (by decide) (Int32.not_lt.mp (by with_reducible assumption)) (by with_reducible assumption) | exact vin_dn (by decide) (by with_reducible assumption) hI9) dX1_multiply_18 ?_
        refine lv_i2l hx hb dX1_multiply_19 rfl ?_
        refine lv_lload_n hx hb dX1_multiply_20 rfl (lv_at hl 1 rfl) ?_
        refine lv_lmul hx hb dX1_multiply_21 ?_
        refine lv_lload_n hx hb dX1_multiply_22 rfl (lv_at hl 2 rfl) ?_
        refine lv_ladd hx hb dX1_multiply_23 ?_
        refine lv_topl (fun x_24 ex_24 => ?_)
        refine lv_lstore (lv' := [(6, .long x_24), (0, .ref a_d), (1, .long x0), (3, .long w_5.2.1), (5, .int w_5.2.2)]) hx hb dX1_multiply_24 hl (by decide) rfl (fun ls hl => ?_)
        refine lv_aload_n hx hb dX1_multiply_26 rfl (lv_at hl 1 rfl) ?_
        refine va_get (D := D) (ci := 1) (v := .ref a_dg) (C := RX1) (T := TX1) (N := 2) hx hb hts in_X1 hown hK hP 0 rfl rfl 0 (by decide) q_0 (fun _ h9 => h9) rfl dX1_multiply_27 ?_
        refine lv_iload hx hb dX1_multiply_30 (lv_at hl 4 rfl) ?_
        refine lv_lload hx hb dX1_multiply_32 (lv_at hl 0 rfl) ?_
        refine lv_ldc2 (v := 10) hx hb hown q_1 dX1_multiply_34 ?_
        refine lv_lrem hx hb dX1_multiply_37 (by decide) ?_
        refine lv_l2i hx hb dX1_multiply_38 rfl ?_
        refine va_iast hx hb hK hP hD hS 1 0 rfl rfl (by first | with_reducible assumption | exact vin_of (b := 32) (by decide) (by with_reducible assumption) (by with_reducible assumption) | exact vin_of (b := 32) (by decide) (Int32.not_lt.mp (by with_reducible assumption)) (by with_reducible assumption) | exact vin_dn (by decide) (by with_reducible assumption) hI9) dX1_multiply_39 (fun H locs hP hD hS => ?_)
        obtain ⟨f_39, ef_39⟩ : ∃ z : Nat → Int32, z = upd w_5.1 (w_5.2.2 : Int32).toNatClampNeg (((x_24 - x_24 / 10 * 10) : Int64).toInt32) := ⟨_, rfl⟩
        have hP : va_P D vwCl (wX1_multiply cI cB a_d a_dg v_below (upd w_5.1 (w_5.2.2 : Int32).toNatClampNeg (((x_24 - x_24 / 10 * 10) : Int64).toInt32))) H := hP
        have hD : va_D A (wX1_multiply cI cB a_d a_dg v_below (upd w_5.1 (w_5.2.2 : Int32).toNatClampNeg (((x_24 - x_24 / 10 * 10) : Int64).toInt32))) := hD
        rw [← ef_39] at hP hD
        refine lv_lload hx hb dX1_multiply_40 (lv_at hl 0 rfl) ?_
        refine lv_ldc2 (v := 10) hx hb hown q_1 dX1_multiply_42 ?_
        refine lv_ldiv hx hb dX1_multiply_45 (by decide) ?_
        refine lv_topl (fun x_46 ex_46 => ?_)
        refine lv_lstore_n (lv' := [(3, .long x_46), (6, .long x_24), (0, .ref a_d), (1, .long x0), (5, .int w_5.2.2)]) hx hb dX1_multiply_46 rfl hl (by decide) rfl (fun ls hl => ?_)
        obtain ⟨x_47, ex_47⟩ : ∃ z : Int32, z = w_5.2.2 + 1 := ⟨_, rfl⟩
        refine lv_iinc (v := x_47) (lv' := [(5, .int x_47), (3, .long x_46), (6, .long x_24), (0, .ref a_d), (1, .long x0)]) hx hb dX1_multiply_47 hl (k := 4) rfl (by rw [ex_47]; rfl) (by decide) rfl (fun ls hl => ?_)
        refine lv_goto (tgt := 5) hx hb dX1_multiply_50 (by decide) ?_
        exact ih (f_39, x_46, x_47) (by subst ex_47; subst ex_46; subst ef_39; subst ex_24;  exact Nat.lt_of_lt_of_le (ms_up c_9) (Nat.le_of_lt_succ hm9)) (by subst ex_47; subst ex_46; subst ef_39; subst ex_24;  exact nn_up hI9 c_9) (by rw [← hL9]; subst ex_47; subst ex_46; subst ef_39; subst ex_24; simp only [LX1_multiply_5, if_neg c_9]) _ _ hP hD hS ls (lv_sub hl [3, 4, 1, 0] rfl)
  exact lp_5 (msU 32 0 + 1) (v_dF, 0, 0) (Nat.lt_succ_self _) (by show (0 : Int32) ≤ 0; decide) eg_5.symm _ _ hP hD hS ls (lv_sub hl [2, 3, 1, 0] rfl)
theorem hdX1_multiply : yX1_multiply.cls = RX1 ∧ yX1_multiply.cls ≠ "java/lang/invoke/MethodHandle" ∧ yX1_multiply.cls ≠ "java/lang/invoke/VarHandle" ∧ (parseMethodDescriptor yX1_multiply.desc).map (fun d => d.parameters.length) = some 1 := by decide +kernel
