noncomputable def fX1_sign (v_below : Int32) (v_dF : (Nat → Int32)) : Int32 :=
  let r_2 := fX1_isLongerThan 0 v_dF
  if r_2 = 0 then (0) else (if v_below = 0 then (1) else ((-1)))
abbrev wX1_sign (cI cB : ClassId) (a_d a_dg : Nat) (v_below : Int32) (v_dF : (Nat → Int32)) : va_W := [(a_d, .inr (1, [.ref a_dg, .int v_below])), (a_dg, .inl (cI, 32, .inl v_dF))]
abbrev rmX1_sign : Room := { frames := 2, cells := 0, slots := 0, locals := 44 }
abbrev qX1_sign (D : va_G) (cI cB : ClassId) (a_d a_dg : Nat) (v_below : Int32) (v_dF : (Nat → Int32)) : (Nat → Prop) → Array Value → State → Outcome → State → Prop := fun A9 => va_Qi (fun (r9 : Int32) (u9 : Unit) => r9 = fX1_sign v_below v_dF) (fun u9 t9 => atW D (TYS cI cB) A9 (wX1_sign cI cB a_d a_dg v_below v_dF) t9) A9
set_option maxHeartbeats 4000000 in
set_option maxRecDepth 100000 in
theorem kX1_sign (l : Launch) (D : va_G) (cI cB : ClassId) (a_d a_dg : Nat) (sz : Nat) (v_below : Int32) (v_dF : (Nat → Int32)) : MetW l yX1_sign (WK yX1_sign cX1_sign 1 (some .int)) rmX1_sign D (TYS cI cB) (wX1_sign cI cB a_d a_dg v_below v_dF) sz [.ref a_d] (qX1_sign D cI cB a_d a_dg v_below v_dF) 0 0 := by
  refine met_std (by decide) rfl (Nat.le_of_ble_eq_true rfl) ?_
  intro p e s m below meth c A ls H hx hb hr hml hown hts hlocks hA hP hK hD hS hNW hl
  have hl : lv_has ls 1 [(0, .ref a_d)] := hl
  have q_0 := hts _ (List.mem_cons_of_mem _ wd_134)
  refine lv_aload_n hx hb dX1_sign_0 rfl (lv_at hl 0 rfl) ?_
  refine lv_iconst (v := 0) hx hb dX1_sign_1 (by decide) ?_
  have hPc : va_P D vwCl (wX1_isLongerThan cI cB a_d a_dg v_below v_dF) H := hP.sub [0, 1] rfl
  have hDc : va_D A (wX1_isLongerThan cI cB a_d a_dg v_below v_dF) := hD.sub [0, 1] (by decide) rfl
  have hFc := va_free (wc := (wX1_isLongerThan cI cB a_d a_dg v_below v_dF)) hD hS hA [0, 1] rfl
  refine va_calli (va_runV (As := [.int 0]) (rest := []) ⟨hx, hb, hml, hown, hts⟩ (kX1_isLongerThan l D cI cB a_d a_dg H.size v_below v_dF 0) (cwV 1 hts (gd_V wd_159 wd_160 wd_161 wd_138 wd_153) rfl rfl rfl hdX1_isLongerThan ⟨Nat.le_of_ble_eq_true rfl, Nat.le_of_ble_eq_true rfl⟩) (preV_std (ci := 1) (q0 := 0) hPc hK hDc hNW rfl rfl) rfl rfl hl.1 rfl (lv_room (Nat.le_of_ble_eq_true rfl)) dX1_sign_2 ⟨Nat.zero_le _, Nat.zero_le _⟩) hS (fun q _ h => hFc q h) hFc (fun r_2 u_2 t9 H1 locs ht9 hvm9 hw9 hB9 hz9 hk9 hS => ?_)
  have er_2 : r_2 = fX1_isLongerThan 0 v_dF := hw9
  have zr_2 : r_2 = 0 ∨ r_2 = 1 := by rw [er_2]; exact zX1_isLongerThan _ _
  obtain ⟨hP, hD⟩ := back_std (w1 := (wX1_isLongerThan cI cB a_d a_dg v_below v_dF)) (w2 := (wX1_sign cI cB a_d a_dg v_below v_dF)) (wr := []) hP hD [0, 1] [] [0, 1] rfl rfl (by decide) (by decide) hk9 hFc hB9 ht9 (by decide) rfl
  clear hB9 hk9 hz9 hvm9 ht9 hFc hPc hDc
  generalize H1 = H at hP hS ⊢
  refine lv_if_ne (tgt := 12) hx hb dX1_sign_5 (by decide) (fun c_5 => ?_) (fun c_5 => ?_)
  · skip
    refine lv_aload_n hx hb dX1_sign_12 rfl (lv_at hl 0 rfl) ?_
    refine va_get (D := D) (ci := 1) (v := .int v_below) (C := RX1) (T := TX1) (N := 2) hx hb hts in_X1 hown hK hP 0 rfl rfl 1 (by decide) q_0 (fun _ h9 => h9) rfl dX1_sign_13 ?_
    refine lv_if_eq (tgt := 23) hx hb dX1_sign_16 (by decide) (fun c_16 => ?_) (fun c_16 => ?_)
    · skip
      refine lv_iconst (v := 1) hx hb dX1_sign_23 (by decide) ?_
      have hf9 : 1 = fX1_sign v_below v_dF := by simp only [fX1_sign, ← er_2, if_neg c_5, if_pos c_16]
      exact W.iret hx hb hr (fun t9 ht9 hW9 => ⟨⟨1, (), rfl, hf9, ⟨by rw [ht9]; exact hP, va_K.moved hW9.alike hK, hD⟩⟩, hS.F ht9⟩) hS.2.2 dX1_sign_24
    · skip
      refine lv_iconst (v := (-1)) hx hb dX1_sign_19 (by decide) ?_
      refine lv_goto (tgt := 24) hx hb dX1_sign_20 (by decide) ?_
      have hf9 : (-1) = fX1_sign v_below v_dF := by simp only [fX1_sign, ← er_2, if_neg c_5, if_neg c_16]
      exact W.iret hx hb hr (fun t9 ht9 hW9 => ⟨⟨(-1), (), rfl, hf9, ⟨by rw [ht9]; exact hP, va_K.moved hW9.alike hK, hD⟩⟩, hS.F ht9⟩) hS.2.2 dX1_sign_24
  · skip
    refine lv_iconst (v := 0) hx hb dX1_sign_8 (by decide) ?_
    refine lv_goto (tgt := 24) hx hb dX1_sign_9 (by decide) ?_
    have hf9 : 0 = fX1_sign v_below v_dF := by simp only [fX1_sign, ← er_2, if_pos c_5]
    exact W.iret hx hb hr (fun t9 ht9 hW9 => ⟨⟨0, (), rfl, hf9, ⟨by rw [ht9]; exact hP, va_K.moved hW9.alike hK, hD⟩⟩, hS.F ht9⟩) hS.2.2 dX1_sign_24
theorem hdX1_sign : yX1_sign.cls = RX1 ∧ yX1_sign.cls ≠ "java/lang/invoke/MethodHandle" ∧ yX1_sign.cls ≠ "java/lang/invoke/VarHandle" ∧ (parseMethodDescriptor yX1_sign.desc).map (fun d => d.parameters.length) = some 0 := by decide +kernel
