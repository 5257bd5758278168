noncomputable def LX1_size_5 (v_dF : (Nat → Int32)) : Nat → (Int64 × Int32) → (Int64 × Int32)
  | 0, w_5 => w_5
  | n9 + 1, w_5 =>
    if w_5.2 < 0 then ((w_5.1, w_5.2)) else (let x_22 := ((w_5.1 * 10) + ((v_dF (w_5.2 : Int32).toNatClampNeg) : Int32).toInt64); let x_23 := w_5.2 + (-1); LX1_size_5 v_dF n9 (x_22, x_23))
noncomputable def fX1_size (v_dF : (Nat → Int32)) : Int64 :=
  let g_5 := LX1_size_5 v_dF (msD 14 + 1) (0, 14)
  g_5.1
abbrev wX1_size (cI cB : ClassId) (a_d a_dg : Nat) (v_below : Int32) (v_dF : (Nat → Int32)) : va_W := [(a_d, .inr (1, [.ref a_dg, .int v_below])), (a_dg, .inl (cI, 32, .inl v_dF))]
abbrev rmX1_size : Room := { frames := 0, cells := 0, slots := 0, locals := 0 }
abbrev qX1_size (D : va_G) (cI cB : ClassId) (a_d a_dg : Nat) (v_below : Int32) (v_dF : (Nat → Int32)) : (Nat → Prop) → Array Value → State → Outcome → State → Prop := fun A9 => va_Ql (fun (r9 : Int64) (u9 : Unit) => r9 = fX1_size v_dF) (fun u9 t9 => atW D (TYS cI cB) A9 (wX1_size cI cB a_d a_dg v_below v_dF) t9) A9
set_option maxHeartbeats 4000000 in
set_option maxRecDepth 100000 in
theorem kX1_size (l : Launch) (D : va_G) (cI cB : ClassId) (a_d a_dg : Nat) (sz : Nat) (v_below : Int32) (v_dF : (Nat → Int32)) : MetW l yX1_size (WK yX1_size cX1_size 4 (some .long)) rmX1_size D (TYS cI cB) (wX1_size cI cB a_d a_dg v_below v_dF) sz [.ref a_d] (qX1_size D cI cB a_d a_dg v_below v_dF) 0 0 := by
  refine met_std (by decide) rfl (Nat.le_of_ble_eq_true rfl) ?_
  intro p e s m below meth c A ls H hx hb hr hml hown hts hlocks hA hP hK hD hS hNW hl
  have hl : lv_has ls 4 [(0, .ref a_d)] := hl
  have q_0 := hts _ (List.mem_cons_of_mem _ wd_163)
  have q_1 := hts _ (List.mem_cons_of_mem _ wd_129)
  refine lv_lconst (v := 0) hx hb dX1_size_0 (by decide) ?_
  refine lv_lstore_n (lv' := [(1, .long 0), (0, .ref a_d)]) hx hb dX1_size_1 rfl hl (by decide) rfl (fun ls hl => ?_)
  refine lv_bipush (v := 14) hx hb dX1_size_2 (by decide) ?_
  refine lv_istore_n (lv' := [(3, .int 14), (1, .long 0), (0, .ref a_d)]) hx hb dX1_size_4 rfl hl (by decide) rfl (fun ls hl => ?_)
  obtain ⟨g_5, eg_5⟩ : ∃ z : (Int64 × Int32), z = LX1_size_5 v_dF (msD 14 + 1) (0, 14) := ⟨_, rfl⟩
  have K_5_0 : ∀ (H : Heap) (locs : List Loc), va_P D vwCl (wX1_size cI cB a_d a_dg v_below v_dF) H → va_D A (wX1_size cI cB a_d a_dg v_below v_dF) → va_S A s.heap H locs → ∀ (ls : Array Slot), lv_has ls 4 [(0, .ref a_d), (1, .long g_5.1), (3, .int g_5.2)] → W p l e rmX1_size s m ([.ref a_d] : List Value).toArray below meth c H locs 0 0 (MQ below (qX1_size D cI cB a_d a_dg v_below v_dF A) ([.ref a_d] : List Value).toArray s 0 0 A) (F0 m 29 ls []) := by
    intro H locs hP hD hS ls hl
    refine lv_lload_n hx hb dX1_size_29 rfl (lv_at hl 1 rfl) ?_
    have hf9 : g_5.1 = fX1_size v_dF := by simp only [fX1_size, ← eg_5]
    exact W.lret hx hb hr (fun t9 ht9 hW9 => ⟨⟨g_5.1, (), rfl, hf9, ⟨by rw [ht9]; exact hP, va_K.moved hW9.alike hK, hD⟩⟩, hS.F ht9⟩) hS.2.2 dX1_size_30
  have lp_5 : ∀ (n9 : Nat) (w_5 : (Int64 × Int32)), msD w_5.2 < n9 → w_5.2 ≤ 14 → LX1_size_5 v_dF n9 w_5 = g_5 → ∀ (H : Heap) (locs : List Loc), va_P D vwCl (wX1_size cI cB a_d a_dg v_below v_dF) H → va_D A (wX1_size cI cB a_d a_dg v_below v_dF) → va_S A s.heap H locs → ∀ (ls : Array Slot), lv_has ls 4 [(0, .ref a_d), (1, .long w_5.1), (3, .int w_5.2)] → W p l e rmX1_size s m ([.ref a_d] : List Value).toArray below meth c H locs 0 0 (MQ below (qX1_size D cI cB a_d a_dg v_below v_dF A) ([.ref a_d] : List Value).toArray s 0 0 A) (F0 m 5 ls []) := by
    intro n9
    induction n9 with
    | zero => intro w_5 hm9; exact absurd hm9 (Nat.not_lt_zero _)
    | succ n9 ih =>
      intro w_5 hm9 hI9 hL9 H locs hP hD hS ls hl
      have hI_5 := hI9
      refine lv_iload_n hx hb dX1_size_5 rfl (lv_at hl 2 rfl) ?_
      refine lv_if_lt (tgt := 29) hx hb dX1_size_6 (by decide) (fun c_6 => ?_) (fun c_6 => ?_)
      · skip
        have hg9 : (w_5.1, w_5.2) = g_5 := by rw [← hL9]; simp only [LX1_size_5, if_pos c_6]
        subst hg9
        exact K_5_0 _ _ hP hD hS ls (lv_sub hl [0, 1, 2] rfl)
      · skip
        refine lv_lload_n hx hb dX1_size_9 rfl (lv_at hl 1 rfl) ?_
        refine lv_ldc2 (v := 10) hx hb hown q_0 dX1_size_10 ?_
        refine lv_lmul hx hb dX1_size_13 ?_
        refine lv_aload_n hx hb dX1_size_14 rfl (lv_at hl 0 rfl) ?_
        refine va_get (D := D) (ci := 1) (v := .ref a_dg) (C := RX1) (T := TX1) (N := 2) hx hb hts in_X1 hown hK hP 0 rfl rfl 0 (by decide) q_1 (fun _ h9 => h9) rfl dX1_size_15 ?_
        refine lv_iload_n hx hb dX1_size_18 rfl (lv_at hl 2 rfl) ?_
        refine va_iald hx hb hK hP 1 0 rfl rfl (by first | with_reducible assumption | exact vin_of (b := 32) (by decide) (by with_reducible assumption) (by with_reducible assumption) | exact vin_of (b := 32) (by decide) (Int32.not_lt.mp (by with_reducible assumption)) (by with_reducible assumption) | exact vin_dn (by decide) (by with_reducible assumption) hI9) dX1_size_19 ?_
        refine lv_i2l hx hb dX1_size_20 rfl ?_
        refine lv_ladd hx hb dX1_size_21 ?_
        refine lv_topl (fun x_22 ex_22 => ?_)
        refine lv_lstore_n (lv' := [(1, .long x_22), (0, .ref a_d), (3, .int w_5.2)]) hx hb dX1_size_22 rfl hl (by decide) rfl (fun ls hl => ?_)
        obtain ⟨x_23, ex_23⟩ : ∃ z : Int32, z = w_5.2 + (-1) := ⟨_, rfl⟩
        refine lv_iinc (v := x_23) (lv' := [(3, .int x_23), (1, .long x_22), (0, .ref a_d)]) hx hb dX1_size_23 hl (k := 2) rfl (by rw [ex_23]; rfl) (by decide) rfl (fun ls hl => ?_)
        refine lv_goto (tgt := 5) hx hb dX1_size_26 (by decide) ?_
        exact ih (x_22, x_23) (by subst ex_23; subst ex_22;  exact Nat.lt_of_lt_of_le (ms_dn c_6) (Nat.le_of_lt_succ hm9)) (by subst ex_23; subst ex_22;  exact le_dn hI9 c_6) (by rw [← hL9]; subst ex_23; subst ex_22; simp only [LX1_size_5, if_neg c_6]) _ _ hP hD hS ls (lv_sub hl [2, 1, 0] rfl)
  exact lp_5 (msD 14 + 1) (0, 14) (Nat.lt_succ_self _) (by show (14 : Int32) ≤ 14; decide) eg_5.symm _ _ hP hD hS ls (lv_sub hl [2, 1, 0] rfl)
theorem hdX1_size : yX1_size.cls = RX1 ∧ yX1_size.cls ≠ "java/lang/invoke/MethodHandle" ∧ yX1_size.cls ≠ "java/lang/invoke/VarHandle" ∧ (parseMethodDescriptor yX1_size.desc).map (fun d => d.parameters.length) = some 0 := by decide +kernel
