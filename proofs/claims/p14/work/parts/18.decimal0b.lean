noncomputable def fX1_isSign (x0 : Int32) : Int32 :=
  if x0 ≤ 9 then (0) else (1)
theorem zX1_isSign (x0 : Int32) : (fX1_isSign x0) = 0 ∨ (fX1_isSign x0) = 1 := by unfold fX1_isSign; (repeat' split) <;> first | exact Or.inl rfl | exact Or.inr rfl
abbrev wX1_isSign (cI cB : ClassId) : va_W := []
abbrev rmX1_isSign : Room := { frames := 0, cells := 0, slots := 0, locals := 0 }
abbrev qX1_isSign (D : va_G) (cI cB : ClassId) (x0 : Int32) : (Nat → Prop) → Array Value → State → Outcome → State → Prop := fun A9 => va_Qi (fun (r9 : Int32) (u9 : Unit) => r9 = fX1_isSign x0) (fun u9 t9 => atW D (TYS cI cB) A9 (wX1_isSign cI cB  ) t9) A9
set_option maxHeartbeats 4000000 in
set_option maxRecDepth 100000 in
theorem kX1_isSign (l : Launch) (D : va_G) (cI cB : ClassId) (sz : Nat) (x0 : Int32) : MetW l yX1_isSign (WK yX1_isSign cX1_isSign 1 (some .boolean)) rmX1_isSign D (TYS cI cB) (wX1_isSign cI cB  ) sz [.int x0] (qX1_isSign D cI cB  x0) 0 0 := by
  refine met_std (by decide) rfl (Nat.le_of_ble_eq_true rfl) ?_
  intro p e s m below meth c A ls H hx hb hr hml hown hts hlocks hA hP hK hD hS hNW hl
  have hl : lv_has ls 1 [(0, .int x0)] := hl
  refine lv_iload_n hx hb dX1_isSign_0 rfl (lv_at hl 0 rfl) ?_
  refine lv_bipush (v := 9) hx hb dX1_isSign_1 (by decide) ?_
  refine lv_icmp_le (tgt := 10) hx hb dX1_isSign_3 (by decide) (fun c_3 => ?_) (fun c_3 => ?_)
  · skip
    refine lv_iconst (v := 0) hx hb dX1_isSign_10 (by decide) ?_
    have hf9 : 0 = fX1_isSign x0 := by simp only [fX1_isSign, if_pos c_3]
    exact W.zret hx hb hr (by decide) (fun t9 ht9 hW9 => ⟨⟨0, (), rfl, hf9, ⟨by rw [ht9]; exact hP, va_K.moved hW9.alike hK, hD⟩⟩, hS.F ht9⟩) hS.2.2 dX1_isSign_11
  · skip
    refine lv_iconst (v := 1) hx hb dX1_isSign_6 (by decide) ?_
    refine lv_goto (tgt := 11) hx hb dX1_isSign_7 (by decide) ?_
    have hf9 : 1 = fX1_isSign x0 := by simp only [fX1_isSign, if_neg c_3]
    exact W.zret hx hb hr (by decide) (fun t9 ht9 hW9 => ⟨⟨1, (), rfl, hf9, ⟨by rw [ht9]; exact hP, va_K.moved hW9.alike hK, hD⟩⟩, hS.F ht9⟩) hS.2.2 dX1_isSign_11
theorem hdX1_isSign : yX1_isSign.cls = RX1 ∧ yX1_isSign.cls ≠ "java/lang/invoke/MethodHandle" ∧ yX1_isSign.cls ≠ "java/lang/invoke/VarHandle" ∧ (parseMethodDescriptor yX1_isSign.desc).map (fun d => d.parameters.length) = some 1 := by decide +kernel
noncomputable def fX1_isSignBelow (x0 : Int32) : Int32 :=
  if x0 = 11 then (1) else (if x0 = 13 then (1) else (0))
theorem zX1_isSignBelow (x0 : Int32) : (fX1_isSignBelow x0) = 0 ∨ (fX1_isSignBelow x0) = 1 := by unfold fX1_isSignBelow; (repeat' split) <;> first | exact Or.inl rfl | exact Or.inr rfl
abbrev wX1_isSignBelow (cI cB : ClassId) : va_W := []
abbrev rmX1_isSignBelow : Room := { frames := 0, cells := 0, slots := 0, locals := 0 }
abbrev qX1_isSignBelow (D : va_G) (cI cB : ClassId) (x0 : Int32) : (Nat → Prop) → Array Value → State → Outcome → State → Prop := fun A9 => va_Qi (fun (r9 : Int32) (u9 : Unit) => r9 = fX1_isSignBelow x0) (fun u9 t9 => atW D (TYS cI cB) A9 (wX1_isSignBelow cI cB  ) t9) A9
set_option maxHeartbeats 4000000 in
set_option maxRecDepth 100000 in
theorem kX1_isSignBelow (l : Launch) (D : va_G) (cI cB : ClassId) (sz : Nat) (x0 : Int32) : MetW l yX1_isSignBelow (WK yX1_isSignBelow cX1_isSignBelow 1 (some .boolean)) rmX1_isSignBelow D (TYS cI cB) (wX1_isSignBelow cI cB  ) sz [.int x0] (qX1_isSignBelow D cI cB  x0) 0 0 := by
  refine met_std (by decide) rfl (Nat.le_of_ble_eq_true rfl) ?_
  intro p e s m below meth c A ls H hx hb hr hml hown hts hlocks hA hP hK hD hS hNW hl
  have hl : lv_has ls 1 [(0, .int x0)] := hl
  refine lv_iload_n hx hb dX1_isSignBelow_0 rfl (lv_at hl 0 rfl) ?_
  refine lv_bipush (v := 11) hx hb dX1_isSignBelow_1 (by decide) ?_
  refine lv_icmp_eq (tgt := 12) hx hb dX1_isSignBelow_3 (by decide) (fun c_3 => ?_) (fun c_3 => ?_)
  · skip
    refine lv_iconst (v := 1) hx hb dX1_isSignBelow_12 (by decide) ?_
    refine lv_goto (tgt := 17) hx hb dX1_isSignBelow_13 (by decide) ?_
    have hf9 : 1 = fX1_isSignBelow x0 := by simp only [fX1_isSignBelow, if_pos c_3]
    exact W.zret hx hb hr (by decide) (fun t9 ht9 hW9 => ⟨⟨1, (), rfl, hf9, ⟨by rw [ht9]; exact hP, va_K.moved hW9.alike hK, hD⟩⟩, hS.F ht9⟩) hS.2.2 dX1_isSignBelow_17
  · skip
    refine lv_iload_n hx hb dX1_isSignBelow_6 rfl (lv_at hl 0 rfl) ?_
    refine lv_bipush (v := 13) hx hb dX1_isSignBelow_7 (by decide) ?_
    refine lv_icmp_ne (tgt := 16) hx hb dX1_isSignBelow_9 (by decide) (fun c_9 => ?_) (fun c_9 => ?_)
    · skip
      refine lv_iconst (v := 0) hx hb dX1_isSignBelow_16 (by decide) ?_
      have hf9 : 0 = fX1_isSignBelow x0 := by simp only [fX1_isSignBelow, if_neg c_3, if_neg c_9]
      exact W.zret hx hb hr (by decide) (fun t9 ht9 hW9 => ⟨⟨0, (), rfl, hf9, ⟨by rw [ht9]; exact hP, va_K.moved hW9.alike hK, hD⟩⟩, hS.F ht9⟩) hS.2.2 dX1_isSignBelow_17
    · skip
      refine lv_iconst (v := 1) hx hb dX1_isSignBelow_12 (by decide) ?_
      refine lv_goto (tgt := 17) hx hb dX1_isSignBelow_13 (by decide) ?_
      have hf9 : 1 = fX1_isSignBelow x0 := by simp only [fX1_isSignBelow, if_neg c_3, if_pos c_9]
      exact W.zret hx hb hr (by decide) (fun t9 ht9 hW9 => ⟨⟨1, (), rfl, hf9, ⟨by rw [ht9]; exact hP, va_K.moved hW9.alike hK, hD⟩⟩, hS.F ht9⟩) hS.2.2 dX1_isSignBelow_17
theorem hdX1_isSignBelow : yX1_isSignBelow.cls = RX1 ∧ yX1_isSignBelow.cls ≠ "java/lang/invoke/MethodHandle" ∧ yX1_isSignBelow.cls ≠ "java/lang/invoke/VarHandle" ∧ (parseMethodDescriptor yX1_isSignBelow.desc).map (fun d => d.parameters.length) = some 1 := by decide +kernel
noncomputable def fX1_digit (x0 : Int32) (v_dF : (Nat → Int32)) : Int32 :=
  if x0 < 0 then (0) else (if 32 ≤ x0 then (0) else ((v_dF (x0 : Int32).toNatClampNeg)))
abbrev wX1_digit (cI cB : ClassId) (a_d a_dg : Nat) (v_below : Int32) (v_dF : (Nat → Int32)) : va_W := [(a_d, .inr (1, [.ref a_dg, .int v_below])), (a_dg, .inl (cI, 32, .inl v_dF))]
abbrev rmX1_digit : Room := { frames := 0, cells := 0, slots := 0, locals := 0 }
abbrev qX1_digit (D : va_G) (cI cB : ClassId) (a_d a_dg : Nat) (v_below : Int32) (v_dF : (Nat → Int32)) (x0 : Int32) : (Nat → Prop) → Array Value → State → Outcome → State → Prop := fun A9 => va_Qi (fun (r9 : Int32) (u9 : Unit) => r9 = fX1_digit x0 v_dF) (fun u9 t9 => atW D (TYS cI cB) A9 (wX1_digit cI cB a_d a_dg v_below v_dF) t9) A9
set_option maxHeartbeats 4000000 in
set_option maxRecDepth 100000 in
theorem kX1_digit (l : Launch) (D : va_G) (cI cB : ClassId) (a_d a_dg : Nat) (sz : Nat) (v_below : Int32) (v_dF : (Nat → Int32)) (x0 : Int32) : MetW l yX1_digit (WK yX1_digit cX1_digit 2 (some .int)) rmX1_digit D (TYS cI cB) (wX1_digit cI cB a_d a_dg v_below v_dF) sz [.ref a_d, .int x0] (qX1_digit D cI cB a_d a_dg v_below v_dF x0) 0 0 := by
  refine met_std (by decide) rfl (Nat.le_of_ble_eq_true rfl) ?_
  intro p e s m below meth c A ls H hx hb hr hml hown hts hlocks hA hP hK hD hS hNW hl
  have hl : lv_has ls 2 [(0, .ref a_d), (1, .int x0)] := hl
  have q_0 := hts _ (List.mem_cons_of_mem _ wd_129)
  refine lv_iload_n hx hb dX1_digit_0 rfl (lv_at hl 1 rfl) ?_
  refine lv_if_lt (tgt := 19) hx hb dX1_digit_1 (by decide) (fun c_1 => ?_) (fun c_1 => ?_)
  · skip
    refine lv_iconst (v := 0) hx hb dX1_digit_19 (by decide) ?_
    have hf9 : 0 = fX1_digit x0 v_dF := by simp only [fX1_digit, if_pos c_1]
    exact W.iret hx hb hr (fun t9 ht9 hW9 => ⟨⟨0, (), rfl, hf9, ⟨by rw [ht9]; exact hP, va_K.moved hW9.alike hK, hD⟩⟩, hS.F ht9⟩) hS.2.2 dX1_digit_20
  · skip
    refine lv_iload_n hx hb dX1_digit_4 rfl (lv_at hl 1 rfl) ?_
    refine lv_bipush (v := 32) hx hb dX1_digit_5 (by decide) ?_
    refine lv_icmp_ge (tgt := 19) hx hb dX1_digit_7 (by decide) (fun c_7 => ?_) (fun c_7 => ?_)
    · skip
      refine lv_iconst (v := 0) hx hb dX1_digit_19 (by decide) ?_
      have hf9 : 0 = fX1_digit x0 v_dF := by simp only [fX1_digit, if_neg c_1, if_pos c_7]
      exact W.iret hx hb hr (fun t9 ht9 hW9 => ⟨⟨0, (), rfl, hf9, ⟨by rw [ht9]; exact hP, va_K.moved hW9.alike hK, hD⟩⟩, hS.F ht9⟩) hS.2.2 dX1_digit_20
    · skip
      refine lv_aload_n hx hb dX1_digit_10 rfl (lv_at hl 0 rfl) ?_
      refine va_get (D := D) (ci := 1) (v := .ref a_dg) (C := RX1) (T := TX1) (N := 2) hx hb hts in_X1 hown hK hP 0 rfl rfl 0 (by decide) q_0 (fun _ h9 => h9) rfl dX1_digit_11 ?_
      refine lv_iload_n hx hb dX1_digit_14 rfl (lv_at hl 1 rfl) ?_
      refine va_iald hx hb hK hP 1 0 rfl rfl (by first | with_reducible assumption | exact vin_of (b := 32) (by decide) (by with_reducible assumption) (by with_reducible assumption) | exact vin_of (b := 32) (by decide) (Int32.not_lt.mp (by with_reducible assumption)) (by with_reducible assumption) | exact vin_dn (by decide) (by with_reducible assumption) hI9) dX1_digit_15 ?_
      refine lv_goto (tgt := 20) hx hb dX1_digit_16 (by decide) ?_
      have hf9 : (v_dF (x0 : Int32).toNatClampNeg) = fX1_digit x0 v_dF := by simp only [fX1_digit, if_neg c_1, if_neg c_7]
      exact W.iret hx hb hr (fun t9 ht9 hW9 => ⟨⟨(v_dF (x0 : Int32).toNatClampNeg), (), rfl, hf9, ⟨by rw [ht9]; exact hP, va_K.moved hW9.alike hK, hD⟩⟩, hS.F ht9⟩) hS.2.2 dX1_digit_20
theorem hdX1_digit : yX1_digit.cls = RX1 ∧ yX1_digit.cls ≠ "java/lang/invoke/MethodHandle" ∧ yX1_digit.cls ≠ "java/lang/invoke/VarHandle" ∧ (parseMethodDescriptor yX1_digit.desc).map (fun d => d.parameters.length) = some 1 := by decide +kernel
