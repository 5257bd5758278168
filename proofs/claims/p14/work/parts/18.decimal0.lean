noncomputable def fJ9_floorDiv_7cf53 (x0 : Int32) (x1 : Int32) : Int32 :=
  let x_3 := (x0 / x1)
  if 0 ≤ (x0 ^^^ x1) then (x_3) else (if (x_3 * x1) = x0 then (x_3) else ((x_3 - 1)))
abbrev wJ9_floorDiv_7cf53 (cI cB : ClassId) : va_W := []
abbrev rmJ9_floorDiv_7cf53 : Room := { frames := 0, cells := 0, slots := 0, locals := 0 }
abbrev qJ9_floorDiv_7cf53 (D : va_G) (cI cB : ClassId) (x0 : Int32) (x1 : Int32) : (Nat → Prop) → Array Value → State → Outcome → State → Prop := fun A9 => va_Qi (fun (r9 : Int32) (u9 : Unit) => r9 = fJ9_floorDiv_7cf53 x0 x1) (fun u9 t9 => atW D (TYS cI cB) A9 (wJ9_floorDiv_7cf53 cI cB  ) t9) A9
set_option maxHeartbeats 4000000 in
set_option maxRecDepth 100000 in
theorem kJ9_floorDiv_7cf53 (l : Launch) (D : va_G) (cI cB : ClassId) (sz : Nat) (x0 : Int32) (x1 : Int32) (hy : ¬ x1 = 0) : MetW l yJ9_floorDiv_7cf53 (WK yJ9_floorDiv_7cf53 cJ9_floorDiv_7cf53 3 (some .int)) rmJ9_floorDiv_7cf53 D (TYS cI cB) (wJ9_floorDiv_7cf53 cI cB  ) sz [.int x0, .int x1] (qJ9_floorDiv_7cf53 D cI cB  x0 x1) 0 0 := by
  refine met_stdF (by decide +kernel) rfl (Nat.le_of_ble_eq_true rfl) ?_
  intro p e s m below meth c A ls H hx hb hr hml hown hts hlocks hA hP hK hD hS hNW hl
  have hl : lv_has ls 3 [(0, .int x0), (1, .int x1)] := hl
  refine lv_iload_n hx hb dJ9_floorDiv_7cf53_0 rfl (lv_at hl 0 rfl) ?_
  refine lv_iload_n hx hb dJ9_floorDiv_7cf53_1 rfl (lv_at hl 1 rfl) ?_
  refine lv_idiv hx hb dJ9_floorDiv_7cf53_2 (by with_reducible assumption) ?_
  refine lv_topi (fun x_3 ex_3 => ?_)
  refine lv_istore_n (lv' := [(2, .int x_3), (0, .int x0), (1, .int x1)]) hx hb dJ9_floorDiv_7cf53_3 rfl hl (by decide) rfl (fun ls hl => ?_)
  refine lv_iload_n hx hb dJ9_floorDiv_7cf53_4 rfl (lv_at hl 1 rfl) ?_
  refine lv_iload_n hx hb dJ9_floorDiv_7cf53_5 rfl (lv_at hl 2 rfl) ?_
  refine lv_ixor hx hb dJ9_floorDiv_7cf53_6 ?_
  refine lv_if_ge (tgt := 21) hx hb dJ9_floorDiv_7cf53_7 (by decide) (fun c_7 => ?_) (fun c_7 => ?_)
  · skip
    refine lv_iload_n hx hb dJ9_floorDiv_7cf53_21 rfl (lv_at hl 0 rfl) ?_
    have hf9 : x_3 = fJ9_floorDiv_7cf53 x0 x1 := by subst ex_3; simp only [fJ9_floorDiv_7cf53, if_pos c_7]
    exact W.iret hx hb hr (fun t9 ht9 hW9 => ⟨⟨x_3, (), rfl, hf9, ⟨by rw [ht9]; exact hP, va_K.moved hW9.alike hK, hD⟩⟩, hS.F ht9⟩) hS.2.2 dJ9_floorDiv_7cf53_22
  · skip
    refine lv_iload_n hx hb dJ9_floorDiv_7cf53_10 rfl (lv_at hl 0 rfl) ?_
    refine lv_iload_n hx hb dJ9_floorDiv_7cf53_11 rfl (lv_at hl 2 rfl) ?_
    refine lv_imul hx hb dJ9_floorDiv_7cf53_12 ?_
    refine lv_iload_n hx hb dJ9_floorDiv_7cf53_13 rfl (lv_at hl 1 rfl) ?_
    refine lv_icmp_eq (tgt := 21) hx hb dJ9_floorDiv_7cf53_14 (by decide) (fun c_14 => ?_) (fun c_14 => ?_)
    · skip
      refine lv_iload_n hx hb dJ9_floorDiv_7cf53_21 rfl (lv_at hl 0 rfl) ?_
      have hf9 : x_3 = fJ9_floorDiv_7cf53 x0 x1 := by subst ex_3; simp only [fJ9_floorDiv_7cf53, if_neg c_7, if_pos c_14]
      exact W.iret hx hb hr (fun t9 ht9 hW9 => ⟨⟨x_3, (), rfl, hf9, ⟨by rw [ht9]; exact hP, va_K.moved hW9.alike hK, hD⟩⟩, hS.F ht9⟩) hS.2.2 dJ9_floorDiv_7cf53_22
    · skip
      refine lv_iload_n hx hb dJ9_floorDiv_7cf53_17 rfl (lv_at hl 0 rfl) ?_
      refine lv_iconst (v := 1) hx hb dJ9_floorDiv_7cf53_18 (by decide) ?_
      refine lv_isub hx hb dJ9_floorDiv_7cf53_19 ?_
      have hf9 : (x_3 - 1) = fJ9_floorDiv_7cf53 x0 x1 := by subst ex_3; simp only [fJ9_floorDiv_7cf53, if_neg c_7, if_neg c_14]
      exact W.iret hx hb hr (fun t9 ht9 hW9 => ⟨⟨(x_3 - 1), (), rfl, hf9, ⟨by rw [ht9]; exact hP, va_K.moved hW9.alike hK, hD⟩⟩, hS.F ht9⟩) hS.2.2 dJ9_floorDiv_7cf53_20
theorem hdJ9_floorDiv_7cf53 : yJ9_floorDiv_7cf53.cls = RJ9 ∧ yJ9_floorDiv_7cf53.cls ≠ "java/lang/invoke/MethodHandle" ∧ yJ9_floorDiv_7cf53.cls ≠ "java/lang/invoke/VarHandle" ∧ (parseMethodDescriptor yJ9_floorDiv_7cf53.desc).map (fun d => d.parameters.length) = some 2 := by decide +kernel
noncomputable def fJ9_floorMod_7cf53 (x0 : Int32) (x1 : Int32) : Int32 :=
  let x_3 := (x0 - x0 / x1 * x1)
  if 0 ≤ (x0 ^^^ x1) then (x_3) else (if x_3 = 0 then (x_3) else ((x_3 + x1)))
abbrev wJ9_floorMod_7cf53 (cI cB : ClassId) : va_W := []
abbrev rmJ9_floorMod_7cf53 : Room := { frames := 0, cells := 0, slots := 0, locals := 0 }
abbrev qJ9_floorMod_7cf53 (D : va_G) (cI cB : ClassId) (x0 : Int32) (x1 : Int32) : (Nat → Prop) → Array Value → State → Outcome → State → Prop := fun A9 => va_Qi (fun (r9 : Int32) (u9 : Unit) => r9 = fJ9_floorMod_7cf53 x0 x1) (fun u9 t9 => atW D (TYS cI cB) A9 (wJ9_floorMod_7cf53 cI cB  ) t9) A9
set_option maxHeartbeats 4000000 in
set_option maxRecDepth 100000 in
theorem kJ9_floorMod_7cf53 (l : Launch) (D : va_G) (cI cB : ClassId) (sz : Nat) (x0 : Int32) (x1 : Int32) (hy : ¬ x1 = 0) : MetW l yJ9_floorMod_7cf53 (WK yJ9_floorMod_7cf53 cJ9_floorMod_7cf53 3 (some .int)) rmJ9_floorMod_7cf53 D (TYS cI cB) (wJ9_floorMod_7cf53 cI cB  ) sz [.int x0, .int x1] (qJ9_floorMod_7cf53 D cI cB  x0 x1) 0 0 := by
  refine met_stdF (by decide +kernel) rfl (Nat.le_of_ble_eq_true rfl) ?_
  intro p e s m below meth c A ls H hx hb hr hml hown hts hlocks hA hP hK hD hS hNW hl
  have hl : lv_has ls 3 [(0, .int x0), (1, .int x1)] := hl
  refine lv_iload_n hx hb dJ9_floorMod_7cf53_0 rfl (lv_at hl 0 rfl) ?_
  refine lv_iload_n hx hb dJ9_floorMod_7cf53_1 rfl (lv_at hl 1 rfl) ?_
  refine lv_irem hx hb dJ9_floorMod_7cf53_2 (by with_reducible assumption) ?_
  refine lv_topi (fun x_3 ex_3 => ?_)
  refine lv_istore_n (lv' := [(2, .int x_3), (0, .int x0), (1, .int x1)]) hx hb dJ9_floorMod_7cf53_3 rfl hl (by decide) rfl (fun ls hl => ?_)
  refine lv_iload_n hx hb dJ9_floorMod_7cf53_4 rfl (lv_at hl 1 rfl) ?_
  refine lv_iload_n hx hb dJ9_floorMod_7cf53_5 rfl (lv_at hl 2 rfl) ?_
  refine lv_ixor hx hb dJ9_floorMod_7cf53_6 ?_
  refine lv_if_ge (tgt := 18) hx hb dJ9_floorMod_7cf53_7 (by decide) (fun c_7 => ?_) (fun c_7 => ?_)
  · skip
    refine lv_iload_n hx hb dJ9_floorMod_7cf53_18 rfl (lv_at hl 0 rfl) ?_
    have hf9 : x_3 = fJ9_floorMod_7cf53 x0 x1 := by subst ex_3; simp only [fJ9_floorMod_7cf53, if_pos c_7]
    exact W.iret hx hb hr (fun t9 ht9 hW9 => ⟨⟨x_3, (), rfl, hf9, ⟨by rw [ht9]; exact hP, va_K.moved hW9.alike hK, hD⟩⟩, hS.F ht9⟩) hS.2.2 dJ9_floorMod_7cf53_19
  · skip
    refine lv_iload_n hx hb dJ9_floorMod_7cf53_10 rfl (lv_at hl 0 rfl) ?_
    refine lv_if_eq (tgt := 18) hx hb dJ9_floorMod_7cf53_11 (by decide) (fun c_11 => ?_) (fun c_11 => ?_)
    · skip
      refine lv_iload_n hx hb dJ9_floorMod_7cf53_18 rfl (lv_at hl 0 rfl) ?_
      have hf9 : x_3 = fJ9_floorMod_7cf53 x0 x1 := by subst ex_3; simp only [fJ9_floorMod_7cf53, if_neg c_7, if_pos c_11]
      exact W.iret hx hb hr (fun t9 ht9 hW9 => ⟨⟨x_3, (), rfl, hf9, ⟨by rw [ht9]; exact hP, va_K.moved hW9.alike hK, hD⟩⟩, hS.F ht9⟩) hS.2.2 dJ9_floorMod_7cf53_19
    · skip
      refine lv_iload_n hx hb dJ9_floorMod_7cf53_14 rfl (lv_at hl 0 rfl) ?_
      refine lv_iload_n hx hb dJ9_floorMod_7cf53_15 rfl (lv_at hl 2 rfl) ?_
      refine lv_iadd hx hb dJ9_floorMod_7cf53_16 ?_
      have hf9 : (x_3 + x1) = fJ9_floorMod_7cf53 x0 x1 := by subst ex_3; simp only [fJ9_floorMod_7cf53, if_neg c_7, if_neg c_11]
      exact W.iret hx hb hr (fun t9 ht9 hW9 => ⟨⟨(x_3 + x1), (), rfl, hf9, ⟨by rw [ht9]; exact hP, va_K.moved hW9.alike hK, hD⟩⟩, hS.F ht9⟩) hS.2.2 dJ9_floorMod_7cf53_17
theorem hdJ9_floorMod_7cf53 : yJ9_floorMod_7cf53.cls = RJ9 ∧ yJ9_floorMod_7cf53.cls ≠ "java/lang/invoke/MethodHandle" ∧ yJ9_floorMod_7cf53.cls ≠ "java/lang/invoke/VarHandle" ∧ (parseMethodDescriptor yJ9_floorMod_7cf53.desc).map (fun d => d.parameters.length) = some 2 := by decide +kernel
