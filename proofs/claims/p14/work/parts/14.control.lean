noncomputable def fX0_goOnAtIf (x0 : Int32) (x1 : Int32) (v_word : Int64) : Int64 :=
  if x0 = 0 then (v_word) else (let u_12 := fX7_setAddress x1 v_word; u_12)
abbrev wX0_goOnAtIf (cI cB : ClassId) (a_co a_ins a_mc a_me a_ps a_rg : Nat) (v_fault : Int32) (v_word : Int64) : va_W := [(a_co, .inr (0, [.ref a_mc, .ref a_ins])), (a_mc, .inr (5, [.ref a_me, .ref a_ps, .ref a_rg, .int v_fault])), (a_ps, .inr (7, [.long v_word]))]
abbrev rmX0_goOnAtIf : Room := { frames := 2, cells := 0, slots := 0, locals := 47 }
abbrev qX0_goOnAtIf (D : va_G) (cI cB : ClassId) (a_co a_ins a_mc a_me a_ps a_rg : Nat) (v_fault : Int32) (v_word : Int64) (x0 : Int32) (x1 : Int32) : (Nat → Prop) → Array Value → State → Outcome → State → Prop := fun A9 => va_Qv (fun (u9 : Int64) => u9 = fX0_goOnAtIf x0 x1 v_word) (fun u9 t9 => atW D (TYS cI cB) A9 (wX0_goOnAtIf cI cB a_co a_ins a_mc a_me a_ps a_rg v_fault u9) t9) A9
set_option maxHeartbeats 4000000 in
set_option maxRecDepth 100000 in
theorem kX0_goOnAtIf (l : Launch) (D : va_G) (cI cB : ClassId) (a_co a_ins a_mc a_me a_ps a_rg : Nat) (sz : Nat) (v_fault : Int32) (v_word : Int64) (x0 : Int32) (x1 : Int32) : MetW l yX0_goOnAtIf (WK yX0_goOnAtIf cX0_goOnAtIf 3 none) rmX0_goOnAtIf D (TYS cI cB) (wX0_goOnAtIf cI cB a_co a_ins a_mc a_me a_ps a_rg v_fault v_word) sz [.ref a_co, .int x0, .int x1] (qX0_goOnAtIf D cI cB a_co a_ins a_mc a_me a_ps a_rg v_fault v_word x0 x1) 0 0 := by
  refine met_std (by decide) rfl (Nat.le_of_ble_eq_true rfl) ?_
  intro p e s m below meth c A ls H hx hb hr hml hown hts hlocks hA hP hK hD hS hNW hl
  have hl : lv_has ls 3 [(0, .ref a_co), (1, .int x0), (2, .int x1)] := hl
  have q_0 := hts _ (List.mem_cons_of_mem _ wd_4)
  have n_0 := hNW.f (A := ([.ref a_co, .int x0, .int x1] : List Value).toArray) ("MainframeCore$Control", 25, "MainframeCore$Machine", "psw", "LMainframeCore$Psw;", "MainframeCore") (by decide +kernel)
  refine lv_iload_n hx hb dX0_goOnAtIf_0 rfl (lv_at hl 1 rfl) ?_
  refine lv_if_eq (tgt := 15) hx hb dX0_goOnAtIf_1 (by decide) (fun c_1 => ?_) (fun c_1 => ?_)
  · skip
    have hf9 : v_word = fX0_goOnAtIf x0 x1 v_word := by simp only [fX0_goOnAtIf, if_pos c_1]
    exact W.vret hx hb hr (fun t9 ht9 hW9 => ⟨⟨v_word, rfl, hf9, ⟨by rw [ht9]; exact hP, va_K.moved hW9.alike hK, hD⟩⟩, hS.F ht9⟩) hS.2.2 dX0_goOnAtIf_15
  · skip
    refine lv_aload_n hx hb dX0_goOnAtIf_4 rfl (lv_at hl 0 rfl) ?_
    refine va_get (D := D) (ci := 0) (v := .ref a_mc) (C := RX0) (T := TX0) (N := 2) hx hb hts in_X0 hown hK hP 0 rfl rfl 0 (by decide) q_0 (fun _ h9 => h9) rfl dX0_goOnAtIf_5 ?_
    refine va_getN (D := D) (ci := 5) (v := .ref a_ps) (C := RX5) (T := TX5) (N := 4) hx hb hts in_X5 hown hK hP 1 rfl rfl 1 (by decide) n_0 (fun _ h9 => h9) rfl dX0_goOnAtIf_8 ?_
    refine lv_iload_n hx hb dX0_goOnAtIf_11 rfl (lv_at hl 2 rfl) ?_
    have hPc : va_P D vwCl (wX7_setAddress cI cB a_ps v_word) H := hP.sub [2] rfl
    have hDc : va_D A (wX7_setAddress cI cB a_ps v_word) := hD.sub [2] (by decide) rfl
    have hFc := va_free (wc := (wX7_setAddress cI cB a_ps v_word)) hD hS hA [2] rfl
    refine va_callv (va_runV (As := [.int x1]) (rest := []) ⟨hx, hb, hml, hown, hts⟩ (kX7_setAddress l D cI cB a_ps H.size v_word x1) (cwV 1 hts (gd_V wd_17 wd_18 wd_19 wd_15 wd_11) rfl rfl rfl hdX7_setAddress ⟨Nat.le_of_ble_eq_true rfl, Nat.le_of_ble_eq_true rfl⟩) (preV_std (ci := 7) (q0 := 0) hPc hK hDc hNW rfl rfl) rfl rfl hl.1 rfl (lv_room (Nat.le_of_ble_eq_true rfl)) dX0_goOnAtIf_12 ⟨Nat.zero_le _, Nat.zero_le _⟩) hS (fun q _ h => hFc q h) hFc (fun u_12 t9 H1 locs ht9 hvm9 hw9 hB9 hz9 hk9 hS => ?_)
    have eu_12 : u_12 = fX7_setAddress x1 v_word := hw9
    obtain ⟨hP, hD⟩ := back_std (w1 := (wX7_setAddress cI cB a_ps u_12)) (w2 := (wX0_goOnAtIf cI cB a_co a_ins a_mc a_me a_ps a_rg v_fault u_12)) (wr := [(a_co, .inr (0, [.ref a_mc, .ref a_ins])), (a_mc, .inr (5, [.ref a_me, .ref a_ps, .ref a_rg, .int v_fault]))]) hP hD [2] [0, 1] [0, 1, 2] rfl rfl (by decide) (by decide) hk9 hFc hB9 ht9 (by decide) rfl
    clear hB9 hk9 hz9 hvm9 ht9 hFc hPc hDc
    generalize H1 = H at hP hS ⊢
    have hf9 : u_12 = fX0_goOnAtIf x0 x1 v_word := by simp only [fX0_goOnAtIf, ← eu_12, if_neg c_1]
    exact W.vret hx hb hr (fun t9 ht9 hW9 => ⟨⟨u_12, rfl, hf9, ⟨by rw [ht9]; exact hP, va_K.moved hW9.alike hK, hD⟩⟩, hS.F ht9⟩) hS.2.2 dX0_goOnAtIf_15
theorem hdX0_goOnAtIf : yX0_goOnAtIf.cls = RX0 ∧ yX0_goOnAtIf.cls ≠ "java/lang/invoke/MethodHandle" ∧ yX0_goOnAtIf.cls ≠ "java/lang/invoke/VarHandle" ∧ (parseMethodDescriptor yX0_goOnAtIf.desc).map (fun d => d.parameters.length) = some 2 := by decide +kernel
noncomputable def fX0_branchAndLink (x0 : Int32) (x1 : Int32) (v_r : Int32) (v_word : Int64) (v_rF : (Nat → Int32)) : (Int64 × (Nat → Int32)) :=
  let u_22 := fX5_setReg v_r ((v_word : Int64).toInt32) v_rF
  let u_28 := fX0_goOnAtIf x0 x1 v_word
  (u_28, u_22)
abbrev wX0_branchAndLink (cI cB : ClassId) (a_co a_ins a_mc a_me a_ps a_rg : Nat) (v_op : Int32) (v_i : Int32) (v_r : Int32) (v_s : Int32) (v_a : Int32) (v_b : Int32) (v_fault : Int32) (v_word : Int64) (v_rF : (Nat → Int32)) : va_W := [(a_co, .inr (0, [.ref a_mc, .ref a_ins])), (a_ins, .inr (4, [.ref a_mc, .ref a_me, .int v_op, .int v_i, .int v_r, .int v_s, .int v_a, .int v_b])), (a_mc, .inr (5, [.ref a_me, .ref a_ps, .ref a_rg, .int v_fault])), (a_ps, .inr (7, [.long v_word])), (a_rg, .inl (cI, 16, .inl v_rF))]
abbrev rmX0_branchAndLink : Room := { frames := 3, cells := 0, slots := 0, locals := 69 }
abbrev qX0_branchAndLink (D : va_G) (cI cB : ClassId) (a_co a_ins a_mc a_me a_ps a_rg : Nat) (v_op : Int32) (v_i : Int32) (v_r : Int32) (v_s : Int32) (v_a : Int32) (v_b : Int32) (v_fault : Int32) (v_word : Int64) (v_rF : (Nat → Int32)) (x0 : Int32) (x1 : Int32) : (Nat → Prop) → Array Value → State → Outcome → State → Prop := fun A9 => va_Qv (fun (u9 : (Int64 × (Nat → Int32))) => u9 = fX0_branchAndLink x0 x1 v_r v_word v_rF) (fun u9 t9 => atW D (TYS cI cB) A9 (wX0_branchAndLink cI cB a_co a_ins a_mc a_me a_ps a_rg v_op v_i v_r v_s v_a v_b v_fault u9.1 u9.2) t9) A9
set_option maxHeartbeats 4000000 in
set_option maxRecDepth 100000 in
theorem kX0_branchAndLink (l : Launch) (D : va_G) (cI cB : ClassId) (a_co a_ins a_mc a_me a_ps a_rg : Nat) (sz : Nat) (v_op : Int32) (v_i : Int32) (v_r : Int32) (v_s : Int32) (v_a : Int32) (v_b : Int32) (v_fault : Int32) (v_word : Int64) (v_rF : (Nat → Int32)) (x0 : Int32) (x1 : Int32) : MetW l yX0_branchAndLink (WK yX0_branchAndLink cX0_branchAndLink 3 none) rmX0_branchAndLink D (TYS cI cB) (wX0_branchAndLink cI cB a_co a_ins a_mc a_me a_ps a_rg v_op v_i v_r v_s v_a v_b v_fault v_word v_rF) sz [.ref a_co, .int x0, .int x1] (qX0_branchAndLink D cI cB a_co a_ins a_mc a_me a_ps a_rg v_op v_i v_r v_s v_a v_b v_fault v_word v_rF x0 x1) 0 0 := by
  refine met_std (by decide) rfl (Nat.le_of_ble_eq_true rfl) ?_
  intro p e s m below meth c A ls H hx hb hr hml hown hts hlocks hA hP hK hD hS hNW hl
  have hl : lv_has ls 3 [(0, .ref a_co), (1, .int x0), (2, .int x1)] := hl
  have q_0 := hts _ (List.mem_cons_of_mem _ wd_4)
  have q_1 := hts _ (List.mem_cons_of_mem _ wd_5)
  have n_0 := hNW.f (A := ([.ref a_co, .int x0, .int x1] : List Value).toArray) ("MainframeCore$Control", 19, "MainframeCore$Instruction", "\x72", "I", "MainframeCore") (by decide +kernel)
  have n_1 := hNW.f (A := ([.ref a_co, .int x0, .int x1] : List Value).toArray) ("MainframeCore$Control", 25, "MainframeCore$Machine", "psw", "LMainframeCore$Psw;", "MainframeCore") (by decide +kernel)
  have n_2 := hNW.f (A := ([.ref a_co, .int x0, .int x1] : List Value).toArray) ("MainframeCore$Control", 31, "MainframeCore$Psw", "word", "J", "MainframeCore") (by decide +kernel)
  refine lv_aload_n hx hb dX0_branchAndLink_0 rfl (lv_at hl 0 rfl) ?_
  refine va_get (D := D) (ci := 0) (v := .ref a_mc) (C := RX0) (T := TX0) (N := 2) hx hb hts in_X0 hown hK hP 0 rfl rfl 0 (by decide) q_0 (fun _ h9 => h9) rfl dX0_branchAndLink_1 ?_
  refine lv_aload_n hx hb dX0_branchAndLink_4 rfl (lv_at hl 0 rfl) ?_
  refine va_get (D := D) (ci := 0) (v := .ref a_ins) (C := RX0) (T := TX0) (N := 2) hx hb hts in_X0 hown hK hP 0 rfl rfl 1 (by decide) q_1 (fun _ h9 => h9) rfl dX0_branchAndLink_5 ?_
  refine va_getN (D := D) (ci := 4) (v := .int v_r) (C := RX4) (T := TX4) (N := 8) hx hb hts in_X4 hown hK hP 1 rfl rfl 4 (by decide) n_0 (fun _ h9 => h9) rfl dX0_branchAndLink_8 ?_
  refine lv_aload_n hx hb dX0_branchAndLink_11 rfl (lv_at hl 0 rfl) ?_
  refine va_get (D := D) (ci := 0) (v := .ref a_mc) (C := RX0) (T := TX0) (N := 2) hx hb hts in_X0 hown hK hP 0 rfl rfl 0 (by decide) q_0 (fun _ h9 => h9) rfl dX0_branchAndLink_12 ?_
  refine va_getN (D := D) (ci := 5) (v := .ref a_ps) (C := RX5) (T := TX5) (N := 4) hx hb hts in_X5 hown hK hP 2 rfl rfl 1 (by decide) n_1 (fun _ h9 => h9) rfl dX0_branchAndLink_15 ?_
  refine va_getN (D := D) (ci := 7) (v := .long v_word) (C := RX7) (T := TX7) (N := 1) hx hb hts in_X7 hown hK hP 3 rfl rfl 0 (by decide) n_2 (fun _ h9 => h9) rfl dX0_branchAndLink_18 ?_
  refine lv_l2i hx hb dX0_branchAndLink_21 rfl ?_
  have hPc : va_P D vwCl (wX5_setReg cI cB a_mc a_me a_ps a_rg v_fault v_rF) H := hP.sub [2, 4] rfl
  have hDc : va_D A (wX5_setReg cI cB a_mc a_me a_ps a_rg v_fault v_rF) := hD.sub [2, 4] (by decide) rfl
  have hFc := va_free (wc := (wX5_setReg cI cB a_mc a_me a_ps a_rg v_fault v_rF)) hD hS hA [2, 4] rfl
  refine va_callv (va_runV (As := [.int v_r, .int (v_word : Int64).toInt32]) (rest := []) ⟨hx, hb, hml, hown, hts⟩ (kX5_setReg l D cI cB a_mc a_me a_ps a_rg H.size v_fault v_rF v_r ((v_word : Int64).toInt32)) (cwV 2 hts (gd_V wd_21 wd_22 wd_23 wd_24 wd_6) rfl rfl rfl hdX5_setReg ⟨Nat.le_of_ble_eq_true rfl, Nat.le_of_ble_eq_true rfl⟩) (preV_std (ci := 5) (q0 := 0) hPc hK hDc hNW rfl rfl) rfl rfl hl.1 rfl (lv_room (Nat.le_of_ble_eq_true rfl)) dX0_branchAndLink_22 ⟨Nat.zero_le _, Nat.zero_le _⟩) hS (fun q _ h => hFc q h) hFc (fun u_22 t9 H1 locs ht9 hvm9 hw9 hB9 hz9 hk9 hS => ?_)
  have eu_22 : u_22 = fX5_setReg v_r ((v_word : Int64).toInt32) v_rF := hw9
  obtain ⟨hP, hD⟩ := back_std (w1 := (wX5_setReg cI cB a_mc a_me a_ps a_rg v_fault u_22)) (w2 := (wX0_branchAndLink cI cB a_co a_ins a_mc a_me a_ps a_rg v_op v_i v_r v_s v_a v_b v_fault v_word u_22)) (wr := [(a_co, .inr (0, [.ref a_mc, .ref a_ins])), (a_ins, .inr (4, [.ref a_mc, .ref a_me, .int v_op, .int v_i, .int v_r, .int v_s, .int v_a, .int v_b])), (a_ps, .inr (7, [.long v_word]))]) hP hD [2, 4] [0, 1, 3] [0, 1, 3, 2, 4] rfl rfl (by decide) (by decide) hk9 hFc hB9 ht9 (by decide) rfl
  clear hB9 hk9 hz9 hvm9 ht9 hFc hPc hDc
  generalize H1 = H at hP hS ⊢
  refine lv_aload_n hx hb dX0_branchAndLink_25 rfl (lv_at hl 0 rfl) ?_
  refine lv_iload_n hx hb dX0_branchAndLink_26 rfl (lv_at hl 1 rfl) ?_
  refine lv_iload_n hx hb dX0_branchAndLink_27 rfl (lv_at hl 2 rfl) ?_
  have hPc : va_P D vwCl (wX0_goOnAtIf cI cB a_co a_ins a_mc a_me a_ps a_rg v_fault v_word) H := hP.sub [0, 2, 3] rfl
  have hDc : va_D A (wX0_goOnAtIf cI cB a_co a_ins a_mc a_me a_ps a_rg v_fault v_word) := hD.sub [0, 2, 3] (by decide) rfl
  have hFc := va_free (wc := (wX0_goOnAtIf cI cB a_co a_ins a_mc a_me a_ps a_rg v_fault v_word)) hD hS hA [0, 2, 3] rfl
  refine va_callv (va_runV (As := [.int x0, .int x1]) (rest := []) ⟨hx, hb, hml, hown, hts⟩ (kX0_goOnAtIf l D cI cB a_co a_ins a_mc a_me a_ps a_rg H.size v_fault v_word x0 x1) (cwV 2 hts (gd_V wd_25 wd_26 wd_27 wd_28 wd_16) rfl rfl rfl hdX0_goOnAtIf ⟨Nat.le_of_ble_eq_true rfl, Nat.le_of_ble_eq_true rfl⟩) (preV_std (ci := 0) (q0 := 0) hPc hK hDc hNW rfl rfl) rfl rfl hl.1 rfl (lv_room (Nat.le_of_ble_eq_true rfl)) dX0_branchAndLink_28 ⟨Nat.zero_le _, Nat.zero_le _⟩) hS (fun q _ h => hFc q h) hFc (fun u_28 t9 H1 locs ht9 hvm9 hw9 hB9 hz9 hk9 hS => ?_)
  have eu_28 : u_28 = fX0_goOnAtIf x0 x1 v_word := hw9
  obtain ⟨hP, hD⟩ := back_std (w1 := (wX0_goOnAtIf cI cB a_co a_ins a_mc a_me a_ps a_rg v_fault u_28)) (w2 := (wX0_branchAndLink cI cB a_co a_ins a_mc a_me a_ps a_rg v_op v_i v_r v_s v_a v_b v_fault u_28 u_22)) (wr := [(a_ins, .inr (4, [.ref a_mc, .ref a_me, .int v_op, .int v_i, .int v_r, .int v_s, .int v_a, .int v_b])), (a_rg, .inl (cI, 16, .inl u_22))]) hP hD [0, 2, 3] [1, 4] [2, 0, 3, 4, 1] rfl rfl (by decide) (by decide) hk9 hFc hB9 ht9 (by decide) rfl
  clear hB9 hk9 hz9 hvm9 ht9 hFc hPc hDc
  generalize H1 = H at hP hS ⊢
  have hf9 : (u_28, u_22) = fX0_branchAndLink x0 x1 v_r v_word v_rF := by simp only [fX0_branchAndLink, ← eu_22, ← eu_28]
  exact W.vret hx hb hr (fun t9 ht9 hW9 => ⟨⟨(u_28, u_22), rfl, hf9, ⟨by rw [ht9]; exact hP, va_K.moved hW9.alike hK, hD⟩⟩, hS.F ht9⟩) hS.2.2 dX0_branchAndLink_31
theorem hdX0_branchAndLink : yX0_branchAndLink.cls = RX0 ∧ yX0_branchAndLink.cls ≠ "java/lang/invoke/MethodHandle" ∧ yX0_branchAndLink.cls ≠ "java/lang/invoke/VarHandle" ∧ (parseMethodDescriptor yX0_branchAndLink.desc).map (fun d => d.parameters.length) = some 2 := by decide +kernel
noncomputable def fX0_branchOnCount (x0 : Int32) (x1 : Int32) (v_r : Int32) (v_word : Int64) (v_rF : (Nat → Int32)) : (Int64 × (Nat → Int32)) :=
  let r_11 := fX5_reg v_r v_rF
  let x_16 := (r_11 - 1)
  let u_29 := fX5_setReg v_r x_16 v_rF
  let m_46 : Int32 := (if x0 = 0 then (0) else (if x_16 = 0 then (0) else (1)))
  let u_47 := fX0_goOnAtIf m_46 x1 v_word
  (u_47, u_29)
abbrev wX0_branchOnCount (cI cB : ClassId) (a_co a_ins a_mc a_me a_ps a_rg : Nat) (v_op : Int32) (v_i : Int32) (v_r : Int32) (v_s : Int32) (v_a : Int32) (v_b : Int32) (v_fault : Int32) (v_word : Int64) (v_rF : (Nat → Int32)) : va_W := [(a_co, .inr (0, [.ref a_mc, .ref a_ins])), (a_ins, .inr (4, [.ref a_mc, .ref a_me, .int v_op, .int v_i, .int v_r, .int v_s, .int v_a, .int v_b])), (a_mc, .inr (5, [.ref a_me, .ref a_ps, .ref a_rg, .int v_fault])), (a_ps, .inr (7, [.long v_word])), (a_rg, .inl (cI, 16, .inl v_rF))]
abbrev rmX0_branchOnCount : Room := { frames := 3, cells := 0, slots := 0, locals := 69 }
abbrev qX0_branchOnCount (D : va_G) (cI cB : ClassId) (a_co a_ins a_mc a_me a_ps a_rg : Nat) (v_op : Int32) (v_i : Int32) (v_r : Int32) (v_s : Int32) (v_a : Int32) (v_b : Int32) (v_fault : Int32) (v_word : Int64) (v_rF : (Nat → Int32)) (x0 : Int32) (x1 : Int32) : (Nat → Prop) → Array Value → State → Outcome → State → Prop := fun A9 => va_Qv (fun (u9 : (Int64 × (Nat → Int32))) => u9 = fX0_branchOnCount x0 x1 v_r v_word v_rF) (fun u9 t9 => atW D (TYS cI cB) A9 (wX0_branchOnCount cI cB a_co a_ins a_mc a_me a_ps a_rg v_op v_i v_r v_s v_a v_b v_fault u9.1 u9.2) t9) A9
set_option maxHeartbeats 4000000 in
set_option maxRecDepth 100000 in
theorem kX0_branchOnCount (l : Launch) (D : va_G) (cI cB : ClassId) (a_co a_ins a_mc a_me a_ps a_rg : Nat) (sz : Nat) (v_op : Int32) (v_i : Int32) (v_r : Int32) (v_s : Int32) (v_a : Int32) (v_b : Int32) (v_fault : Int32) (v_word : Int64) (v_rF : (Nat → Int32)) (x0 : Int32) (x1 : Int32) : MetW l yX0_branchOnCount (WK yX0_branchOnCount cX0_branchOnCount 4 none) rmX0_branchOnCount D (TYS cI cB) (wX0_branchOnCount cI cB a_co a_ins a_mc a_me a_ps a_rg v_op v_i v_r v_s v_a v_b v_fault v_word v_rF) sz [.ref a_co, .int x0, .int x1] (qX0_branchOnCount D cI cB a_co a_ins a_mc a_me a_ps a_rg v_op v_i v_r v_s v_a v_b v_fault v_word v_rF x0 x1) 0 0 := by
  refine met_std (by decide) rfl (Nat.le_of_ble_eq_true rfl) ?_
  intro p e s m below meth c A ls H hx hb hr hml hown hts hlocks hA hP hK hD hS hNW hl
  have hl : lv_has ls 4 [(0, .ref a_co), (1, .int x0), (2, .int x1)] := hl
  have q_0 := hts _ (List.mem_cons_of_mem _ wd_4)
  have q_1 := hts _ (List.mem_cons_of_mem _ wd_5)
  have n_0 := hNW.f (A := ([.ref a_co, .int x0, .int x1] : List Value).toArray) ("MainframeCore$Control", 19, "MainframeCore$Instruction", "\x72", "I", "MainframeCore") (by decide +kernel)
  refine lv_aload_n hx hb dX0_branchOnCount_0 rfl (lv_at hl 0 rfl) ?_
  refine va_get (D := D) (ci := 0) (v := .ref a_mc) (C := RX0) (T := TX0) (N := 2) hx hb hts in_X0 hown hK hP 0 rfl rfl 0 (by decide) q_0 (fun _ h9 => h9) rfl dX0_branchOnCount_1 ?_
  refine lv_aload_n hx hb dX0_branchOnCount_4 rfl (lv_at hl 0 rfl) ?_
  refine va_get (D := D) (ci := 0) (v := .ref a_ins) (C := RX0) (T := TX0) (N := 2) hx hb hts in_X0 hown hK hP 0 rfl rfl 1 (by decide) q_1 (fun _ h9 => h9) rfl dX0_branchOnCount_5 ?_
  refine va_getN (D := D) (ci := 4) (v := .int v_r) (C := RX4) (T := TX4) (N := 8) hx hb hts in_X4 hown hK hP 1 rfl rfl 4 (by decide) n_0 (fun _ h9 => h9) rfl dX0_branchOnCount_8 ?_
  have hPc : va_P D vwCl (wX5_reg cI cB a_mc a_me a_ps a_rg v_fault v_rF) H := hP.sub [2, 4] rfl
  have hDc : va_D A (wX5_reg cI cB a_mc a_me a_ps a_rg v_fault v_rF) := hD.sub [2, 4] (by decide) rfl
  have hFc := va_free (wc := (wX5_reg cI cB a_mc a_me a_ps a_rg v_fault v_rF)) hD hS hA [2, 4] rfl
  refine va_calli (va_runV (As := [.int v_r]) (rest := []) ⟨hx, hb, hml, hown, hts⟩ (kX5_reg l D cI cB a_mc a_me a_ps a_rg H.size v_fault v_rF v_r) (cwV 1 hts (gd_V wd_30 wd_31 wd_32 wd_24 wd_29) rfl rfl rfl hdX5_reg ⟨Nat.le_of_ble_eq_true rfl, Nat.le_of_ble_eq_true rfl⟩) (preV_std (ci := 5) (q0 := 0) hPc hK hDc hNW rfl rfl) rfl rfl hl.1 rfl (lv_room (Nat.le_of_ble_eq_true rfl)) dX0_branchOnCount_11 ⟨Nat.zero_le _, Nat.zero_le _⟩) hS (fun q _ h => hFc q h) hFc (fun r_11 u_11 t9 H1 locs ht9 hvm9 hw9 hB9 hz9 hk9 hS => ?_)
  have er_11 : r_11 = fX5_reg v_r v_rF := hw9
  obtain ⟨hP, hD⟩ := back_std (w1 := (wX5_reg cI cB a_mc a_me a_ps a_rg v_fault v_rF)) (w2 := (wX0_branchOnCount cI cB a_co a_ins a_mc a_me a_ps a_rg v_op v_i v_r v_s v_a v_b v_fault v_word v_rF)) (wr := [(a_co, .inr (0, [.ref a_mc, .ref a_ins])), (a_ins, .inr (4, [.ref a_mc, .ref a_me, .int v_op, .int v_i, .int v_r, .int v_s, .int v_a, .int v_b])), (a_ps, .inr (7, [.long v_word]))]) hP hD [2, 4] [0, 1, 3] [0, 1, 3, 2, 4] rfl rfl (by decide) (by decide) hk9 hFc hB9 ht9 (by decide) rfl
  clear hB9 hk9 hz9 hvm9 ht9 hFc hPc hDc
  generalize H1 = H at hP hS ⊢
  refine lv_iconst (v := 1) hx hb dX0_branchOnCount_14 (by decide) ?_
  refine lv_isub hx hb dX0_branchOnCount_15 ?_
  refine lv_topi (fun x_16 ex_16 => ?_)
  refine lv_istore_n (lv' := [(3, .int x_16), (0, .ref a_co), (1, .int x0), (2, .int x1)]) hx hb dX0_branchOnCount_16 rfl hl (by decide) rfl (fun ls hl => ?_)
  refine lv_aload_n hx hb dX0_branchOnCount_17 rfl (lv_at hl 1 rfl) ?_
  refine va_get (D := D) (ci := 0) (v := .ref a_mc) (C := RX0) (T := TX0) (N := 2) hx hb hts in_X0 hown hK hP 0 rfl rfl 0 (by decide) q_0 (fun _ h9 => h9) rfl dX0_branchOnCount_18 ?_
  refine lv_aload_n hx hb dX0_branchOnCount_21 rfl (lv_at hl 1 rfl) ?_
  refine va_get (D := D) (ci := 0) (v := .ref a_ins) (C := RX0) (T := TX0) (N := 2) hx hb hts in_X0 hown hK hP 0 rfl rfl 1 (by decide) q_1 (fun _ h9 => h9) rfl dX0_branchOnCount_22 ?_
  refine va_getN (D := D) (ci := 4) (v := .int v_r) (C := RX4) (T := TX4) (N := 8) hx hb hts in_X4 hown hK hP 1 rfl rfl 4 (by decide) n_0 (fun _ h9 => h9) rfl dX0_branchOnCount_25 ?_
  refine lv_iload_n hx hb dX0_branchOnCount_28 rfl (lv_at hl 0 rfl) ?_
  have hPc : va_P D vwCl (wX5_setReg cI cB a_mc a_me a_ps a_rg v_fault v_rF) H := hP.sub [2, 4] rfl
  have hDc : va_D A (wX5_setReg cI cB a_mc a_me a_ps a_rg v_fault v_rF) := hD.sub [2, 4] (by decide) rfl
  have hFc := va_free (wc := (wX5_setReg cI cB a_mc a_me a_ps a_rg v_fault v_rF)) hD hS hA [2, 4] rfl
  refine va_callv (va_runV (As := [.int v_r, .int x_16]) (rest := []) ⟨hx, hb, hml, hown, hts⟩ (kX5_setReg l D cI cB a_mc a_me a_ps a_rg H.size v_fault v_rF v_r x_16) (cwV 2 hts (gd_V wd_21 wd_22 wd_23 wd_24 wd_6) rfl rfl rfl hdX5_setReg ⟨Nat.le_of_ble_eq_true rfl, Nat.le_of_ble_eq_true rfl⟩) (preV_std (ci := 5) (q0 := 0) hPc hK hDc hNW rfl rfl) rfl rfl hl.1 rfl (lv_room (Nat.le_of_ble_eq_true rfl)) dX0_branchOnCount_29 ⟨Nat.zero_le _, Nat.zero_le _⟩) hS (fun q _ h => hFc q h) hFc (fun u_29 t9 H1 locs ht9 hvm9 hw9 hB9 hz9 hk9 hS => ?_)
  have eu_29 : u_29 = fX5_setReg v_r x_16 v_rF := hw9
  obtain ⟨hP, hD⟩ := back_std (w1 := (wX5_setReg cI cB a_mc a_me a_ps a_rg v_fault u_29)) (w2 := (wX0_branchOnCount cI cB a_co a_ins a_mc a_me a_ps a_rg v_op v_i v_r v_s v_a v_b v_fault v_word u_29)) (wr := [(a_co, .inr (0, [.ref a_mc, .ref a_ins])), (a_ins, .inr (4, [.ref a_mc, .ref a_me, .int v_op, .int v_i, .int v_r, .int v_s, .int v_a, .int v_b])), (a_ps, .inr (7, [.long v_word]))]) hP hD [2, 4] [0, 1, 3] [0, 1, 3, 2, 4] rfl rfl (by decide) (by decide) hk9 hFc hB9 ht9 (by decide) rfl
  clear hB9 hk9 hz9 hvm9 ht9 hFc hPc hDc
  generalize H1 = H at hP hS ⊢
  refine lv_aload_n hx hb dX0_branchOnCount_32 rfl (lv_at hl 1 rfl) ?_
  refine lv_iload_n hx hb dX0_branchOnCount_33 rfl (lv_at hl 2 rfl) ?_
  have J_46 : ∀ (m_46 : Int32), m_46 = (if x0 = 0 then (0) else (if x_16 = 0 then (0) else (1))) → ∀ (H : Heap) (locs : List Loc), va_P D vwCl (wX0_branchOnCount cI cB a_co a_ins a_mc a_me a_ps a_rg v_op v_i v_r v_s v_a v_b v_fault v_word u_29) H → va_D A (wX0_branchOnCount cI cB a_co a_ins a_mc a_me a_ps a_rg v_op v_i v_r v_s v_a v_b v_fault v_word u_29) → va_S A s.heap H locs → ∀ (ls : Array Slot), lv_has ls 4 [(0, .ref a_co), (1, .int x0), (2, .int x1), (3, .int x_16)] → W p l e rmX0_branchOnCount s m ([.ref a_co, .int x0, .int x1] : List Value).toArray below meth c H locs 0 0 (MQ below (qX0_branchOnCount D cI cB a_co a_ins a_mc a_me a_ps a_rg v_op v_i v_r v_s v_a v_b v_fault v_word v_rF x0 x1 A) ([.ref a_co, .int x0, .int x1] : List Value).toArray s 0 0 A) (F0 m 46 ls [.int m_46, .ref a_co]) := by
    intro m_46 em_46 H locs hP hD hS ls hl
    have zm_46_0 : m_46 = 0 ∨ m_46 = 1 := by rw [em_46]; (try dsimp only); (repeat' split) <;> first | exact Or.inl rfl | exact Or.inr rfl
    refine lv_iload_n hx hb dX0_branchOnCount_46 rfl (lv_at hl 2 rfl) ?_
    have hPc : va_P D vwCl (wX0_goOnAtIf cI cB a_co a_ins a_mc a_me a_ps a_rg v_fault v_word) H := hP.sub [0, 2, 3] rfl
    have hDc : va_D A (wX0_goOnAtIf cI cB a_co a_ins a_mc a_me a_ps a_rg v_fault v_word) := hD.sub [0, 2, 3] (by decide) rfl
    have hFc := va_free (wc := (wX0_goOnAtIf cI cB a_co a_ins a_mc a_me a_ps a_rg v_fault v_word)) hD hS hA [0, 2, 3] rfl
    refine va_callv (va_runV (As := [.int m_46, .int x1]) (rest := []) ⟨hx, hb, hml, hown, hts⟩ (kX0_goOnAtIf l D cI cB a_co a_ins a_mc a_me a_ps a_rg H.size v_fault v_word m_46 x1) (cwV 2 hts (gd_V wd_25 wd_26 wd_27 wd_28 wd_16) rfl rfl rfl hdX0_goOnAtIf ⟨Nat.le_of_ble_eq_true rfl, Nat.le_of_ble_eq_true rfl⟩) (preV_std (ci := 0) (q0 := 0) hPc hK hDc hNW rfl rfl) rfl rfl hl.1 rfl (lv_room (Nat.le_of_ble_eq_true rfl)) dX0_branchOnCount_47 ⟨Nat.zero_le _, Nat.zero_le _⟩) hS (fun q _ h => hFc q h) hFc (fun u_47 t9 H1 locs ht9 hvm9 hw9 hB9 hz9 hk9 hS => ?_)
    have eu_47 : u_47 = fX0_goOnAtIf m_46 x1 v_word := hw9
    obtain ⟨hP, hD⟩ := back_std (w1 := (wX0_goOnAtIf cI cB a_co a_ins a_mc a_me a_ps a_rg v_fault u_47)) (w2 := (wX0_branchOnCount cI cB a_co a_ins a_mc a_me a_ps a_rg v_op v_i v_r v_s v_a v_b v_fault u_47 u_29)) (wr := [(a_ins, .inr (4, [.ref a_mc, .ref a_me, .int v_op, .int v_i, .int v_r, .int v_s, .int v_a, .int v_b])), (a_rg, .inl (cI, 16, .inl u_29))]) hP hD [0, 2, 3] [1, 4] [2, 0, 3, 4, 1] rfl rfl (by decide) (by decide) hk9 hFc hB9 ht9 (by decide) rfl
    clear hB9 hk9 hz9 hvm9 ht9 hFc hPc hDc
    generalize H1 = H at hP hS ⊢
    have hf9 : (u_47, u_29) = fX0_branchOnCount x0 x1 v_r v_word v_rF := by subst em_46; subst ex_16; simp only [fX0_branchOnCount, ← er_11, ← eu_29, ← eu_47]
    exact W.vret hx hb hr (fun t9 ht9 hW9 => ⟨⟨(u_47, u_29), rfl, hf9, ⟨by rw [ht9]; exact hP, va_K.moved hW9.alike hK, hD⟩⟩, hS.F ht9⟩) hS.2.2 dX0_branchOnCount_50
  refine lv_if_eq (tgt := 45) hx hb dX0_branchOnCount_34 (by decide) (fun c_34 => ?_) (fun c_34 => ?_)
  · skip
    refine lv_iconst (v := 0) hx hb dX0_branchOnCount_45 (by decide) ?_
    exact J_46 0 (by simp only [if_pos c_34]) _ _ hP hD hS ls (lv_sub hl [1, 2, 3, 0] rfl)
  · skip
    refine lv_iload_n hx hb dX0_branchOnCount_37 rfl (lv_at hl 0 rfl) ?_
    refine lv_if_eq (tgt := 45) hx hb dX0_branchOnCount_38 (by decide) (fun c_38 => ?_) (fun c_38 => ?_)
    · skip
      refine lv_iconst (v := 0) hx hb dX0_branchOnCount_45 (by decide) ?_
      exact J_46 0 (by simp only [if_neg c_34, if_pos c_38]) _ _ hP hD hS ls (lv_sub hl [1, 2, 3, 0] rfl)
    · skip
      refine lv_iconst (v := 1) hx hb dX0_branchOnCount_41 (by decide) ?_
      refine lv_goto (tgt := 46) hx hb dX0_branchOnCount_42 (by decide) ?_
      exact J_46 1 (by simp only [if_neg c_34, if_neg c_38]) _ _ hP hD hS ls (lv_sub hl [1, 2, 3, 0] rfl)
theorem hdX0_branchOnCount : yX0_branchOnCount.cls = RX0 ∧ yX0_branchOnCount.cls ≠ "java/lang/invoke/MethodHandle" ∧ yX0_branchOnCount.cls ≠ "java/lang/invoke/VarHandle" ∧ (parseMethodDescriptor yX0_branchOnCount.desc).map (fun d => d.parameters.length) = some 2 := by decide +kernel
noncomputable def fX0_branchOnCondition (x0 : Int32) (x1 : Int32) (v_r : Int32) (v_word : Int64) : Int64 :=
  let r_14 := fX7_condition v_word
  let m_29 : Int32 := (if ((v_r <<< (r_14 &&& 31)) &&& 8) = 0 then (0) else (1))
  let m_44 : Int32 := (if x0 = 0 then (0) else (if m_29 = 0 then (0) else (1)))
  let u_45 := fX0_goOnAtIf m_44 x1 v_word
  u_45
abbrev wX0_branchOnCondition (cI cB : ClassId) (a_co a_ins a_mc a_me a_ps a_rg : Nat) (v_op : Int32) (v_i : Int32) (v_r : Int32) (v_s : Int32) (v_a : Int32) (v_b : Int32) (v_fault : Int32) (v_word : Int64) : va_W := [(a_co, .inr (0, [.ref a_mc, .ref a_ins])), (a_ins, .inr (4, [.ref a_mc, .ref a_me, .int v_op, .int v_i, .int v_r, .int v_s, .int v_a, .int v_b])), (a_mc, .inr (5, [.ref a_me, .ref a_ps, .ref a_rg, .int v_fault])), (a_ps, .inr (7, [.long v_word]))]
abbrev rmX0_branchOnCondition : Room := { frames := 3, cells := 0, slots := 0, locals := 69 }
abbrev qX0_branchOnCondition (D : va_G) (cI cB : ClassId) (a_co a_ins a_mc a_me a_ps a_rg : Nat) (v_op : Int32) (v_i : Int32) (v_r : Int32) (v_s : Int32) (v_a : Int32) (v_b : Int32) (v_fault : Int32) (v_word : Int64) (x0 : Int32) (x1 : Int32) : (Nat → Prop) → Array Value → State → Outcome → State → Prop := fun A9 => va_Qv (fun (u9 : Int64) => u9 = fX0_branchOnCondition x0 x1 v_r v_word) (fun u9 t9 => atW D (TYS cI cB) A9 (wX0_branchOnCondition cI cB a_co a_ins a_mc a_me a_ps a_rg v_op v_i v_r v_s v_a v_b v_fault u9) t9) A9
set_option maxHeartbeats 4000000 in
set_option maxRecDepth 100000 in
theorem kX0_branchOnCondition (l : Launch) (D : va_G) (cI cB : ClassId) (a_co a_ins a_mc a_me a_ps a_rg : Nat) (sz : Nat) (v_op : Int32) (v_i : Int32) (v_r : Int32) (v_s : Int32) (v_a : Int32) (v_b : Int32) (v_fault : Int32) (v_word : Int64) (x0 : Int32) (x1 : Int32) : MetW l yX0_branchOnCondition (WK yX0_branchOnCondition cX0_branchOnCondition 4 none) rmX0_branchOnCondition D (TYS cI cB) (wX0_branchOnCondition cI cB a_co a_ins a_mc a_me a_ps a_rg v_op v_i v_r v_s v_a v_b v_fault v_word) sz [.ref a_co, .int x0, .int x1] (qX0_branchOnCondition D cI cB a_co a_ins a_mc a_me a_ps a_rg v_op v_i v_r v_s v_a v_b v_fault v_word x0 x1) 0 0 := by
  refine met_std (by decide) rfl (Nat.le_of_ble_eq_true rfl) ?_
  intro p e s m below meth c A ls H hx hb hr hml hown hts hlocks hA hP hK hD hS hNW hl
  have hl : lv_has ls 4 [(0, .ref a_co), (1, .int x0), (2, .int x1)] := hl
  have q_0 := hts _ (List.mem_cons_of_mem _ wd_5)
  have q_1 := hts _ (List.mem_cons_of_mem _ wd_4)
  have n_0 := hNW.f (A := ([.ref a_co, .int x0, .int x1] : List Value).toArray) ("MainframeCore$Control", 19, "MainframeCore$Instruction", "\x72", "I", "MainframeCore") (by decide +kernel)
  have n_1 := hNW.f (A := ([.ref a_co, .int x0, .int x1] : List Value).toArray) ("MainframeCore$Control", 25, "MainframeCore$Machine", "psw", "LMainframeCore$Psw;", "MainframeCore") (by decide +kernel)
  refine lv_aload_n hx hb dX0_branchOnCondition_0 rfl (lv_at hl 0 rfl) ?_
  refine va_get (D := D) (ci := 0) (v := .ref a_ins) (C := RX0) (T := TX0) (N := 2) hx hb hts in_X0 hown hK hP 0 rfl rfl 1 (by decide) q_0 (fun _ h9 => h9) rfl dX0_branchOnCondition_1 ?_
  refine va_getN (D := D) (ci := 4) (v := .int v_r) (C := RX4) (T := TX4) (N := 8) hx hb hts in_X4 hown hK hP 1 rfl rfl 4 (by decide) n_0 (fun _ h9 => h9) rfl dX0_branchOnCondition_4 ?_
  refine lv_aload_n hx hb dX0_branchOnCondition_7 rfl (lv_at hl 0 rfl) ?_
  refine va_get (D := D) (ci := 0) (v := .ref a_mc) (C := RX0) (T := TX0) (N := 2) hx hb hts in_X0 hown hK hP 0 rfl rfl 0 (by decide) q_1 (fun _ h9 => h9) rfl dX0_branchOnCondition_8 ?_
  refine va_getN (D := D) (ci := 5) (v := .ref a_ps) (C := RX5) (T := TX5) (N := 4) hx hb hts in_X5 hown hK hP 2 rfl rfl 1 (by decide) n_1 (fun _ h9 => h9) rfl dX0_branchOnCondition_11 ?_
  have hPc : va_P D vwCl (wX7_condition cI cB a_ps v_word) H := hP.sub [3] rfl
  have hDc : va_D A (wX7_condition cI cB a_ps v_word) := hD.sub [3] (by decide) rfl
  have hFc := va_free (wc := (wX7_condition cI cB a_ps v_word)) hD hS hA [3] rfl
  refine va_calli (va_runV (As := []) (rest := [.int v_r]) ⟨hx, hb, hml, hown, hts⟩ (kX7_condition l D cI cB a_ps H.size v_word ) (cwV 0 hts (gd_V wd_36 wd_37 wd_38 wd_15 wd_34) rfl rfl rfl hdX7_condition ⟨Nat.le_of_ble_eq_true rfl, Nat.le_of_ble_eq_true rfl⟩) (preV_std (ci := 7) (q0 := 0) hPc hK hDc hNW rfl rfl) rfl rfl hl.1 rfl (lv_room (Nat.le_of_ble_eq_true rfl)) dX0_branchOnCondition_14 ⟨Nat.zero_le _, Nat.zero_le _⟩) hS (fun q _ h => hFc q h) hFc (fun r_14 u_14 t9 H1 locs ht9 hvm9 hw9 hB9 hz9 hk9 hS => ?_)
  have er_14 : r_14 = fX7_condition v_word := hw9
  obtain ⟨hP, hD⟩ := back_std (w1 := (wX7_condition cI cB a_ps v_word)) (w2 := (wX0_branchOnCondition cI cB a_co a_ins a_mc a_me a_ps a_rg v_op v_i v_r v_s v_a v_b v_fault v_word)) (wr := [(a_co, .inr (0, [.ref a_mc, .ref a_ins])), (a_ins, .inr (4, [.ref a_mc, .ref a_me, .int v_op, .int v_i, .int v_r, .int v_s, .int v_a, .int v_b])), (a_mc, .inr (5, [.ref a_me, .ref a_ps, .ref a_rg, .int v_fault]))]) hP hD [3] [0, 1, 2] [0, 1, 2, 3] rfl rfl (by decide) (by decide) hk9 hFc hB9 ht9 (by decide) rfl
  clear hB9 hk9 hz9 hvm9 ht9 hFc hPc hDc
  generalize H1 = H at hP hS ⊢
  refine lv_ishl hx hb dX0_branchOnCondition_17 ?_
  refine lv_bipush (v := 8) hx hb dX0_branchOnCondition_18 (by decide) ?_
  refine lv_iand hx hb dX0_branchOnCondition_20 ?_
  have J_29 : ∀ (m_29 : Int32), m_29 = (if ((v_r <<< (r_14 &&& 31)) &&& 8) = 0 then (0) else (1)) → ∀ (H : Heap) (locs : List Loc), va_P D vwCl (wX0_branchOnCondition cI cB a_co a_ins a_mc a_me a_ps a_rg v_op v_i v_r v_s v_a v_b v_fault v_word) H → va_D A (wX0_branchOnCondition cI cB a_co a_ins a_mc a_me a_ps a_rg v_op v_i v_r v_s v_a v_b v_fault v_word) → va_S A s.heap H locs → ∀ (ls : Array Slot), lv_has ls 4 [(0, .ref a_co), (1, .int x0), (2, .int x1)] → W p l e rmX0_branchOnCondition s m ([.ref a_co, .int x0, .int x1] : List Value).toArray below meth c H locs 0 0 (MQ below (qX0_branchOnCondition D cI cB a_co a_ins a_mc a_me a_ps a_rg v_op v_i v_r v_s v_a v_b v_fault v_word x0 x1 A) ([.ref a_co, .int x0, .int x1] : List Value).toArray s 0 0 A) (F0 m 29 ls [.int m_29]) := by
    intro m_29 em_29 H locs hP hD hS ls hl
    have zm_29_0 : m_29 = 0 ∨ m_29 = 1 := by rw [em_29]; (try dsimp only); (repeat' split) <;> first | exact Or.inl rfl | exact Or.inr rfl
    refine lv_istore_n (lv' := [(3, .int m_29), (0, .ref a_co), (1, .int x0), (2, .int x1)]) hx hb dX0_branchOnCondition_29 rfl hl (by decide) rfl (fun ls hl => ?_)
    refine lv_aload_n hx hb dX0_branchOnCondition_30 rfl (lv_at hl 1 rfl) ?_
    refine lv_iload_n hx hb dX0_branchOnCondition_31 rfl (lv_at hl 2 rfl) ?_
    have J_44 : ∀ (m_44 : Int32), m_44 = (if x0 = 0 then (0) else (if m_29 = 0 then (0) else (1))) → ∀ (H : Heap) (locs : List Loc), va_P D vwCl (wX0_branchOnCondition cI cB a_co a_ins a_mc a_me a_ps a_rg v_op v_i v_r v_s v_a v_b v_fault v_word) H → va_D A (wX0_branchOnCondition cI cB a_co a_ins a_mc a_me a_ps a_rg v_op v_i v_r v_s v_a v_b v_fault v_word) → va_S A s.heap H locs → ∀ (ls : Array Slot), lv_has ls 4 [(0, .ref a_co), (1, .int x0), (2, .int x1), (3, .int m_29)] → W p l e rmX0_branchOnCondition s m ([.ref a_co, .int x0, .int x1] : List Value).toArray below meth c H locs 0 0 (MQ below (qX0_branchOnCondition D cI cB a_co a_ins a_mc a_me a_ps a_rg v_op v_i v_r v_s v_a v_b v_fault v_word x0 x1 A) ([.ref a_co, .int x0, .int x1] : List Value).toArray s 0 0 A) (F0 m 44 ls [.int m_44, .ref a_co]) := by
      intro m_44 em_44 H locs hP hD hS ls hl
      have zm_44_0 : m_44 = 0 ∨ m_44 = 1 := by rw [em_44]; (try dsimp only); (repeat' split) <;> first | exact Or.inl rfl | exact Or.inr rfl
      refine lv_iload_n hx hb dX0_branchOnCondition_44 rfl (lv_at hl 2 rfl) ?_
      have hPc : va_P D vwCl (wX0_goOnAtIf cI cB a_co a_ins a_mc a_me a_ps a_rg v_fault v_word) H := hP.sub [0, 2, 3] rfl
      have hDc : va_D A (wX0_goOnAtIf cI cB a_co a_ins a_mc a_me a_ps a_rg v_fault v_word) := hD.sub [0, 2, 3] (by decide) rfl
      have hFc := va_free (wc := (wX0_goOnAtIf cI cB a_co a_ins a_mc a_me a_ps a_rg v_fault v_word)) hD hS hA [0, 2, 3] rfl
      refine va_callv (va_runV (As := [.int m_44, .int x1]) (rest := []) ⟨hx, hb, hml, hown, hts⟩ (kX0_goOnAtIf l D cI cB a_co a_ins a_mc a_me a_ps a_rg H.size v_fault v_word m_44 x1) (cwV 2 hts (gd_V wd_25 wd_26 wd_27 wd_28 wd_16) rfl rfl rfl hdX0_goOnAtIf ⟨Nat.le_of_ble_eq_true rfl, Nat.le_of_ble_eq_true rfl⟩) (preV_std (ci := 0) (q0 := 0) hPc hK hDc hNW rfl rfl) rfl rfl hl.1 rfl (lv_room (Nat.le_of_ble_eq_true rfl)) dX0_branchOnCondition_45 ⟨Nat.zero_le _, Nat.zero_le _⟩) hS (fun q _ h => hFc q h) hFc (fun u_45 t9 H1 locs ht9 hvm9 hw9 hB9 hz9 hk9 hS => ?_)
      have eu_45 : u_45 = fX0_goOnAtIf m_44 x1 v_word := hw9
      obtain ⟨hP, hD⟩ := back_std (w1 := (wX0_goOnAtIf cI cB a_co a_ins a_mc a_me a_ps a_rg v_fault u_45)) (w2 := (wX0_branchOnCondition cI cB a_co a_ins a_mc a_me a_ps a_rg v_op v_i v_r v_s v_a v_b v_fault u_45)) (wr := [(a_ins, .inr (4, [.ref a_mc, .ref a_me, .int v_op, .int v_i, .int v_r, .int v_s, .int v_a, .int v_b]))]) hP hD [0, 2, 3] [1] [1, 0, 2, 3] rfl rfl (by decide) (by decide) hk9 hFc hB9 ht9 (by decide) rfl
      clear hB9 hk9 hz9 hvm9 ht9 hFc hPc hDc
      generalize H1 = H at hP hS ⊢
      have hf9 : u_45 = fX0_branchOnCondition x0 x1 v_r v_word := by subst em_44; subst em_29; simp only [fX0_branchOnCondition, ← er_14, ← eu_45]
      exact W.vret hx hb hr (fun t9 ht9 hW9 => ⟨⟨u_45, rfl, hf9, ⟨by rw [ht9]; exact hP, va_K.moved hW9.alike hK, hD⟩⟩, hS.F ht9⟩) hS.2.2 dX0_branchOnCondition_48
    refine lv_if_eq (tgt := 43) hx hb dX0_branchOnCondition_32 (by decide) (fun c_32 => ?_) (fun c_32 => ?_)
    · skip
      refine lv_iconst (v := 0) hx hb dX0_branchOnCondition_43 (by decide) ?_
      exact J_44 0 (by simp only [if_pos c_32]) _ _ hP hD hS ls (lv_sub hl [1, 2, 3, 0] rfl)
    · skip
      refine lv_iload_n hx hb dX0_branchOnCondition_35 rfl (lv_at hl 0 rfl) ?_
      refine lv_if_eq (tgt := 43) hx hb dX0_branchOnCondition_36 (by decide) (fun c_36 => ?_) (fun c_36 => ?_)
      · skip
        refine lv_iconst (v := 0) hx hb dX0_branchOnCondition_43 (by decide) ?_
        exact J_44 0 (by simp only [if_neg c_32, if_pos c_36]) _ _ hP hD hS ls (lv_sub hl [1, 2, 3, 0] rfl)
      · skip
        refine lv_iconst (v := 1) hx hb dX0_branchOnCondition_39 (by decide) ?_
        refine lv_goto (tgt := 44) hx hb dX0_branchOnCondition_40 (by decide) ?_
        exact J_44 1 (by simp only [if_neg c_32, if_neg c_36]) _ _ hP hD hS ls (lv_sub hl [1, 2, 3, 0] rfl)
  refine lv_if_eq (tgt := 28) hx hb dX0_branchOnCondition_21 (by decide) (fun c_21 => ?_) (fun c_21 => ?_)
  · skip
    refine lv_iconst (v := 0) hx hb dX0_branchOnCondition_28 (by decide) ?_
    exact J_29 0 (by simp only [if_pos c_21]) _ _ hP hD hS ls (lv_sub hl [0, 1, 2] rfl)
  · skip
    refine lv_iconst (v := 1) hx hb dX0_branchOnCondition_24 (by decide) ?_
    refine lv_goto (tgt := 29) hx hb dX0_branchOnCondition_25 (by decide) ?_
    exact J_29 1 (by simp only [if_neg c_21]) _ _ hP hD hS ls (lv_sub hl [0, 1, 2] rfl)
theorem hdX0_branchOnCondition : yX0_branchOnCondition.cls = RX0 ∧ yX0_branchOnCondition.cls ≠ "java/lang/invoke/MethodHandle" ∧ yX0_branchOnCondition.cls ≠ "java/lang/invoke/VarHandle" ∧ (parseMethodDescriptor yX0_branchOnCondition.desc).map (fun d => d.parameters.length) = some 2 := by decide +kernel
noncomputable def fX0_branchOnIndex (x0 : Int32) (v_r : Int32) (v_s : Int32) (v_a : Int32) (v_word : Int64) (v_rF : (Nat → Int32)) : (Int64 × (Nat → Int32)) :=
  let r_13 := fX5_reg (v_s ||| 1) v_rF
  let r_28 := fX5_reg v_r v_rF
  let r_42 := fX5_reg v_s v_rF
  let x_46 := (r_28 + r_42)
  let u_59 := fX5_setReg v_r x_46 v_rF
  let m_73 : Int32 := (if x_46 ≤ r_13 then (0) else (1))
  let m_82 : Int32 := (if m_73 = x0 then (1) else (0))
  let u_89 := fX0_goOnAtIf m_82 v_a v_word
  (u_89, u_59)
abbrev wX0_branchOnIndex (cI cB : ClassId) (a_co a_ins a_mc a_me a_ps a_rg : Nat) (v_op : Int32) (v_i : Int32) (v_r : Int32) (v_s : Int32) (v_a : Int32) (v_b : Int32) (v_fault : Int32) (v_word : Int64) (v_rF : (Nat → Int32)) : va_W := [(a_co, .inr (0, [.ref a_mc, .ref a_ins])), (a_ins, .inr (4, [.ref a_mc, .ref a_me, .int v_op, .int v_i, .int v_r, .int v_s, .int v_a, .int v_b])), (a_mc, .inr (5, [.ref a_me, .ref a_ps, .ref a_rg, .int v_fault])), (a_ps, .inr (7, [.long v_word])), (a_rg, .inl (cI, 16, .inl v_rF))]
abbrev rmX0_branchOnIndex : Room := { frames := 3, cells := 0, slots := 0, locals := 69 }
abbrev qX0_branchOnIndex (D : va_G) (cI cB : ClassId) (a_co a_ins a_mc a_me a_ps a_rg : Nat) (v_op : Int32) (v_i : Int32) (v_r : Int32) (v_s : Int32) (v_a : Int32) (v_b : Int32) (v_fault : Int32) (v_word : Int64) (v_rF : (Nat → Int32)) (x0 : Int32) : (Nat → Prop) → Array Value → State → Outcome → State → Prop := fun A9 => va_Qv (fun (u9 : (Int64 × (Nat → Int32))) => u9 = fX0_branchOnIndex x0 v_r v_s v_a v_word v_rF) (fun u9 t9 => atW D (TYS cI cB) A9 (wX0_branchOnIndex cI cB a_co a_ins a_mc a_me a_ps a_rg v_op v_i v_r v_s v_a v_b v_fault u9.1 u9.2) t9) A9
set_option maxHeartbeats 4000000 in
set_option maxRecDepth 100000 in
theorem kX0_branchOnIndex (l : Launch) (D : va_G) (cI cB : ClassId) (a_co a_ins a_mc a_me a_ps a_rg : Nat) (sz : Nat) (v_op : Int32) (v_i : Int32) (v_r : Int32) (v_s : Int32) (v_a : Int32) (v_b : Int32) (v_fault : Int32) (v_word : Int64) (v_rF : (Nat → Int32)) (x0 : Int32) : MetW l yX0_branchOnIndex (WK yX0_branchOnIndex cX0_branchOnIndex 4 none) rmX0_branchOnIndex D (TYS cI cB) (wX0_branchOnIndex cI cB a_co a_ins a_mc a_me a_ps a_rg v_op v_i v_r v_s v_a v_b v_fault v_word v_rF) sz [.ref a_co, .int x0] (qX0_branchOnIndex D cI cB a_co a_ins a_mc a_me a_ps a_rg v_op v_i v_r v_s v_a v_b v_fault v_word v_rF x0) 0 0 := by
  refine met_std (by decide) rfl (Nat.le_of_ble_eq_true rfl) ?_
  intro p e s m below meth c A ls H hx hb hr hml hown hts hlocks hA hP hK hD hS hNW hl
  have hl : lv_has ls 4 [(0, .ref a_co), (1, .int x0)] := hl
  have q_0 := hts _ (List.mem_cons_of_mem _ wd_4)
  have q_1 := hts _ (List.mem_cons_of_mem _ wd_5)
  have n_0 := hNW.f (A := ([.ref a_co, .int x0] : List Value).toArray) ("MainframeCore$Control", 53, "MainframeCore$Instruction", "s", "I", "MainframeCore") (by decide +kernel)
  have n_1 := hNW.f (A := ([.ref a_co, .int x0] : List Value).toArray) ("MainframeCore$Control", 19, "MainframeCore$Instruction", "\x72", "I", "MainframeCore") (by decide +kernel)
  have n_2 := hNW.f (A := ([.ref a_co, .int x0] : List Value).toArray) ("MainframeCore$Control", 56, "MainframeCore$Instruction", "a", "I", "MainframeCore") (by decide +kernel)
  refine lv_aload_n hx hb dX0_branchOnIndex_0 rfl (lv_at hl 0 rfl) ?_
  refine va_get (D := D) (ci := 0) (v := .ref a_mc) (C := RX0) (T := TX0) (N := 2) hx hb hts in_X0 hown hK hP 0 rfl rfl 0 (by decide) q_0 (fun _ h9 => h9) rfl dX0_branchOnIndex_1 ?_
  refine lv_aload_n hx hb dX0_branchOnIndex_4 rfl (lv_at hl 0 rfl) ?_
  refine va_get (D := D) (ci := 0) (v := .ref a_ins) (C := RX0) (T := TX0) (N := 2) hx hb hts in_X0 hown hK hP 0 rfl rfl 1 (by decide) q_1 (fun _ h9 => h9) rfl dX0_branchOnIndex_5 ?_
  refine va_getN (D := D) (ci := 4) (v := .int v_s) (C := RX4) (T := TX4) (N := 8) hx hb hts in_X4 hown hK hP 1 rfl rfl 5 (by decide) n_0 (fun _ h9 => h9) rfl dX0_branchOnIndex_8 ?_
  refine lv_iconst (v := 1) hx hb dX0_branchOnIndex_11 (by decide) ?_
  refine lv_ior hx hb dX0_branchOnIndex_12 ?_
  have hPc : va_P D vwCl (wX5_reg cI cB a_mc a_me a_ps a_rg v_fault v_rF) H := hP.sub [2, 4] rfl
  have hDc : va_D A (wX5_reg cI cB a_mc a_me a_ps a_rg v_fault v_rF) := hD.sub [2, 4] (by decide) rfl
  have hFc := va_free (wc := (wX5_reg cI cB a_mc a_me a_ps a_rg v_fault v_rF)) hD hS hA [2, 4] rfl
  refine va_calli (va_runV (As := [.int (v_s ||| 1)]) (rest := []) ⟨hx, hb, hml, hown, hts⟩ (kX5_reg l D cI cB a_mc a_me a_ps a_rg H.size v_fault v_rF (v_s ||| 1)) (cwV 1 hts (gd_V wd_30 wd_31 wd_32 wd_24 wd_29) rfl rfl rfl hdX5_reg ⟨Nat.le_of_ble_eq_true rfl, Nat.le_of_ble_eq_true rfl⟩) (preV_std (ci := 5) (q0 := 0) hPc hK hDc hNW rfl rfl) rfl rfl hl.1 rfl (lv_room (Nat.le_of_ble_eq_true rfl)) dX0_branchOnIndex_13 ⟨Nat.zero_le _, Nat.zero_le _⟩) hS (fun q _ h => hFc q h) hFc (fun r_13 u_13 t9 H1 locs ht9 hvm9 hw9 hB9 hz9 hk9 hS => ?_)
  have er_13 : r_13 = fX5_reg (v_s ||| 1) v_rF := hw9
  obtain ⟨hP, hD⟩ := back_std (w1 := (wX5_reg cI cB a_mc a_me a_ps a_rg v_fault v_rF)) (w2 := (wX0_branchOnIndex cI cB a_co a_ins a_mc a_me a_ps a_rg v_op v_i v_r v_s v_a v_b v_fault v_word v_rF)) (wr := [(a_co, .inr (0, [.ref a_mc, .ref a_ins])), (a_ins, .inr (4, [.ref a_mc, .ref a_me, .int v_op, .int v_i, .int v_r, .int v_s, .int v_a, .int v_b])), (a_ps, .inr (7, [.long v_word]))]) hP hD [2, 4] [0, 1, 3] [0, 1, 3, 2, 4] rfl rfl (by decide) (by decide) hk9 hFc hB9 ht9 (by decide) rfl
  clear hB9 hk9 hz9 hvm9 ht9 hFc hPc hDc
  generalize H1 = H at hP hS ⊢
  refine lv_istore_n (lv' := [(2, .int r_13), (0, .ref a_co), (1, .int x0)]) hx hb dX0_branchOnIndex_16 rfl hl (by decide) rfl (fun ls hl => ?_)
  refine lv_aload_n hx hb dX0_branchOnIndex_17 rfl (lv_at hl 1 rfl) ?_
  refine va_get (D := D) (ci := 0) (v := .ref a_mc) (C := RX0) (T := TX0) (N := 2) hx hb hts in_X0 hown hK hP 0 rfl rfl 0 (by decide) q_0 (fun _ h9 => h9) rfl dX0_branchOnIndex_18 ?_
  refine lv_aload_n hx hb dX0_branchOnIndex_21 rfl (lv_at hl 1 rfl) ?_
  refine va_get (D := D) (ci := 0) (v := .ref a_ins) (C := RX0) (T := TX0) (N := 2) hx hb hts in_X0 hown hK hP 0 rfl rfl 1 (by decide) q_1 (fun _ h9 => h9) rfl dX0_branchOnIndex_22 ?_
  refine va_getN (D := D) (ci := 4) (v := .int v_r) (C := RX4) (T := TX4) (N := 8) hx hb hts in_X4 hown hK hP 1 rfl rfl 4 (by decide) n_1 (fun _ h9 => h9) rfl dX0_branchOnIndex_25 ?_
  have hPc : va_P D vwCl (wX5_reg cI cB a_mc a_me a_ps a_rg v_fault v_rF) H := hP.sub [2, 4] rfl
  have hDc : va_D A (wX5_reg cI cB a_mc a_me a_ps a_rg v_fault v_rF) := hD.sub [2, 4] (by decide) rfl
  have hFc := va_free (wc := (wX5_reg cI cB a_mc a_me a_ps a_rg v_fault v_rF)) hD hS hA [2, 4] rfl
  refine va_calli (va_runV (As := [.int v_r]) (rest := []) ⟨hx, hb, hml, hown, hts⟩ (kX5_reg l D cI cB a_mc a_me a_ps a_rg H.size v_fault v_rF v_r) (cwV 1 hts (gd_V wd_30 wd_31 wd_32 wd_24 wd_29) rfl rfl rfl hdX5_reg ⟨Nat.le_of_ble_eq_true rfl, Nat.le_of_ble_eq_true rfl⟩) (preV_std (ci := 5) (q0 := 0) hPc hK hDc hNW rfl rfl) rfl rfl hl.1 rfl (lv_room (Nat.le_of_ble_eq_true rfl)) dX0_branchOnIndex_28 ⟨Nat.zero_le _, Nat.zero_le _⟩) hS (fun q _ h => hFc q h) hFc (fun r_28 u_28 t9 H1 locs ht9 hvm9 hw9 hB9 hz9 hk9 hS => ?_)
  have er_28 : r_28 = fX5_reg v_r v_rF := hw9
  obtain ⟨hP, hD⟩ := back_std (w1 := (wX5_reg cI cB a_mc a_me a_ps a_rg v_fault v_rF)) (w2 := (wX0_branchOnIndex cI cB a_co a_ins a_mc a_me a_ps a_rg v_op v_i v_r v_s v_a v_b v_fault v_word v_rF)) (wr := [(a_co, .inr (0, [.ref a_mc, .ref a_ins])), (a_ins, .inr (4, [.ref a_mc, .ref a_me, .int v_op, .int v_i, .int v_r, .int v_s, .int v_a, .int v_b])), (a_ps, .inr (7, [.long v_word]))]) hP hD [2, 4] [0, 1, 3] [0, 1, 3, 2, 4] rfl rfl (by decide) (by decide) hk9 hFc hB9 ht9 (by decide) rfl
  clear hB9 hk9 hz9 hvm9 ht9 hFc hPc hDc
  generalize H1 = H at hP hS ⊢
  refine lv_aload_n hx hb dX0_branchOnIndex_31 rfl (lv_at hl 1 rfl) ?_
  refine va_get (D := D) (ci := 0) (v := .ref a_mc) (C := RX0) (T := TX0) (N := 2) hx hb hts in_X0 hown hK hP 0 rfl rfl 0 (by decide) q_0 (fun _ h9 => h9) rfl dX0_branchOnIndex_32 ?_
  refine lv_aload_n hx hb dX0_branchOnIndex_35 rfl (lv_at hl 1 rfl) ?_
  refine va_get (D := D) (ci := 0) (v := .ref a_ins) (C := RX0) (T := TX0) (N := 2) hx hb hts in_X0 hown hK hP 0 rfl rfl 1 (by decide) q_1 (fun _ h9 => h9) rfl dX0_branchOnIndex_36 ?_
  refine va_getN (D := D) (ci := 4) (v := .int v_s) (C := RX4) (T := TX4) (N := 8) hx hb hts in_X4 hown hK hP 1 rfl rfl 5 (by decide) n_0 (fun _ h9 => h9) rfl dX0_branchOnIndex_39 ?_
  have hPc : va_P D vwCl (wX5_reg cI cB a_mc a_me a_ps a_rg v_fault v_rF) H := hP.sub [2, 4] rfl
  have hDc : va_D A (wX5_reg cI cB a_mc a_me a_ps a_rg v_fault v_rF) := hD.sub [2, 4] (by decide) rfl
  have hFc := va_free (wc := (wX5_reg cI cB a_mc a_me a_ps a_rg v_fault v_rF)) hD hS hA [2, 4] rfl
  refine va_calli (va_runV (As := [.int v_s]) (rest := [.int r_28]) ⟨hx, hb, hml, hown, hts⟩ (kX5_reg l D cI cB a_mc a_me a_ps a_rg H.size v_fault v_rF v_s) (cwV 1 hts (gd_V wd_30 wd_31 wd_32 wd_24 wd_29) rfl rfl rfl hdX5_reg ⟨Nat.le_of_ble_eq_true rfl, Nat.le_of_ble_eq_true rfl⟩) (preV_std (ci := 5) (q0 := 0) hPc hK hDc hNW rfl rfl) rfl rfl hl.1 rfl (lv_room (Nat.le_of_ble_eq_true rfl)) dX0_branchOnIndex_42 ⟨Nat.zero_le _, Nat.zero_le _⟩) hS (fun q _ h => hFc q h) hFc (fun r_42 u_42 t9 H1 locs ht9 hvm9 hw9 hB9 hz9 hk9 hS => ?_)
  have er_42 : r_42 = fX5_reg v_s v_rF := hw9
  obtain ⟨hP, hD⟩ := back_std (w1 := (wX5_reg cI cB a_mc a_me a_ps a_rg v_fault v_rF)) (w2 := (wX0_branchOnIndex cI cB a_co a_ins a_mc a_me a_ps a_rg v_op v_i v_r v_s v_a v_b v_fault v_word v_rF)) (wr := [(a_co, .inr (0, [.ref a_mc, .ref a_ins])), (a_ins, .inr (4, [.ref a_mc, .ref a_me, .int v_op, .int v_i, .int v_r, .int v_s, .int v_a, .int v_b])), (a_ps, .inr (7, [.long v_word]))]) hP hD [2, 4] [0, 1, 3] [0, 1, 3, 2, 4] rfl rfl (by decide) (by decide) hk9 hFc hB9 ht9 (by decide) rfl
  clear hB9 hk9 hz9 hvm9 ht9 hFc hPc hDc
  generalize H1 = H at hP hS ⊢
  refine lv_iadd hx hb dX0_branchOnIndex_45 ?_
  refine lv_topi (fun x_46 ex_46 => ?_)
  refine lv_istore_n (lv' := [(3, .int x_46), (2, .int r_13), (0, .ref a_co), (1, .int x0)]) hx hb dX0_branchOnIndex_46 rfl hl (by decide) rfl (fun ls hl => ?_)
  refine lv_aload_n hx hb dX0_branchOnIndex_47 rfl (lv_at hl 2 rfl) ?_
  refine va_get (D := D) (ci := 0) (v := .ref a_mc) (C := RX0) (T := TX0) (N := 2) hx hb hts in_X0 hown hK hP 0 rfl rfl 0 (by decide) q_0 (fun _ h9 => h9) rfl dX0_branchOnIndex_48 ?_
  refine lv_aload_n hx hb dX0_branchOnIndex_51 rfl (lv_at hl 2 rfl) ?_
  refine va_get (D := D) (ci := 0) (v := .ref a_ins) (C := RX0) (T := TX0) (N := 2) hx hb hts in_X0 hown hK hP 0 rfl rfl 1 (by decide) q_1 (fun _ h9 => h9) rfl dX0_branchOnIndex_52 ?_
  refine va_getN (D := D) (ci := 4) (v := .int v_r) (C := RX4) (T := TX4) (N := 8) hx hb hts in_X4 hown hK hP 1 rfl rfl 4 (by decide) n_1 (fun _ h9 => h9) rfl dX0_branchOnIndex_55 ?_
  refine lv_iload_n hx hb dX0_branchOnIndex_58 rfl (lv_at hl 0 rfl) ?_
  have hPc : va_P D vwCl (wX5_setReg cI cB a_mc a_me a_ps a_rg v_fault v_rF) H := hP.sub [2, 4] rfl
  have hDc : va_D A (wX5_setReg cI cB a_mc a_me a_ps a_rg v_fault v_rF) := hD.sub [2, 4] (by decide) rfl
  have hFc := va_free (wc := (wX5_setReg cI cB a_mc a_me a_ps a_rg v_fault v_rF)) hD hS hA [2, 4] rfl
  refine va_callv (va_runV (As := [.int v_r, .int x_46]) (rest := []) ⟨hx, hb, hml, hown, hts⟩ (kX5_setReg l D cI cB a_mc a_me a_ps a_rg H.size v_fault v_rF v_r x_46) (cwV 2 hts (gd_V wd_21 wd_22 wd_23 wd_24 wd_6) rfl rfl rfl hdX5_setReg ⟨Nat.le_of_ble_eq_true rfl, Nat.le_of_ble_eq_true rfl⟩) (preV_std (ci := 5) (q0 := 0) hPc hK hDc hNW rfl rfl) rfl rfl hl.1 rfl (lv_room (Nat.le_of_ble_eq_true rfl)) dX0_branchOnIndex_59 ⟨Nat.zero_le _, Nat.zero_le _⟩) hS (fun q _ h => hFc q h) hFc (fun u_59 t9 H1 locs ht9 hvm9 hw9 hB9 hz9 hk9 hS => ?_)
  have eu_59 : u_59 = fX5_setReg v_r x_46 v_rF := hw9
  obtain ⟨hP, hD⟩ := back_std (w1 := (wX5_setReg cI cB a_mc a_me a_ps a_rg v_fault u_59)) (w2 := (wX0_branchOnIndex cI cB a_co a_ins a_mc a_me a_ps a_rg v_op v_i v_r v_s v_a v_b v_fault v_word u_59)) (wr := [(a_co, .inr (0, [.ref a_mc, .ref a_ins])), (a_ins, .inr (4, [.ref a_mc, .ref a_me, .int v_op, .int v_i, .int v_r, .int v_s, .int v_a, .int v_b])), (a_ps, .inr (7, [.long v_word]))]) hP hD [2, 4] [0, 1, 3] [0, 1, 3, 2, 4] rfl rfl (by decide) (by decide) hk9 hFc hB9 ht9 (by decide) rfl
  clear hB9 hk9 hz9 hvm9 ht9 hFc hPc hDc
  generalize H1 = H at hP hS ⊢
  refine lv_aload_n hx hb dX0_branchOnIndex_62 rfl (lv_at hl 2 rfl) ?_
  refine lv_iload_n hx hb dX0_branchOnIndex_63 rfl (lv_at hl 0 rfl) ?_
  refine lv_iload_n hx hb dX0_branchOnIndex_64 rfl (lv_at hl 1 rfl) ?_
  have J_73 : ∀ (m_73 : Int32), m_73 = (if x_46 ≤ r_13 then (0) else (1)) → ∀ (H : Heap) (locs : List Loc), va_P D vwCl (wX0_branchOnIndex cI cB a_co a_ins a_mc a_me a_ps a_rg v_op v_i v_r v_s v_a v_b v_fault v_word u_59) H → va_D A (wX0_branchOnIndex cI cB a_co a_ins a_mc a_me a_ps a_rg v_op v_i v_r v_s v_a v_b v_fault v_word u_59) → va_S A s.heap H locs → ∀ (ls : Array Slot), lv_has ls 4 [(0, .ref a_co), (1, .int x0), (2, .int r_13), (3, .int x_46)] → W p l e rmX0_branchOnIndex s m ([.ref a_co, .int x0] : List Value).toArray below meth c H locs 0 0 (MQ below (qX0_branchOnIndex D cI cB a_co a_ins a_mc a_me a_ps a_rg v_op v_i v_r v_s v_a v_b v_fault v_word v_rF x0 A) ([.ref a_co, .int x0] : List Value).toArray s 0 0 A) (F0 m 73 ls [.int m_73, .ref a_co]) := by
    intro m_73 em_73 H locs hP hD hS ls hl
    have zm_73_0 : m_73 = 0 ∨ m_73 = 1 := by rw [em_73]; (try dsimp only); (repeat' split) <;> first | exact Or.inl rfl | exact Or.inr rfl
    refine lv_iload_n hx hb dX0_branchOnIndex_73 rfl (lv_at hl 1 rfl) ?_
    have J_82 : ∀ (m_82 : Int32), m_82 = (if m_73 = x0 then (1) else (0)) → ∀ (H : Heap) (locs : List Loc), va_P D vwCl (wX0_branchOnIndex cI cB a_co a_ins a_mc a_me a_ps a_rg v_op v_i v_r v_s v_a v_b v_fault v_word u_59) H → va_D A (wX0_branchOnIndex cI cB a_co a_ins a_mc a_me a_ps a_rg v_op v_i v_r v_s v_a v_b v_fault v_word u_59) → va_S A s.heap H locs → ∀ (ls : Array Slot), lv_has ls 4 [(0, .ref a_co), (1, .int x0), (2, .int r_13), (3, .int x_46)] → W p l e rmX0_branchOnIndex s m ([.ref a_co, .int x0] : List Value).toArray below meth c H locs 0 0 (MQ below (qX0_branchOnIndex D cI cB a_co a_ins a_mc a_me a_ps a_rg v_op v_i v_r v_s v_a v_b v_fault v_word v_rF x0 A) ([.ref a_co, .int x0] : List Value).toArray s 0 0 A) (F0 m 82 ls [.int m_82, .ref a_co]) := by
      intro m_82 em_82 H locs hP hD hS ls hl
      have zm_82_0 : m_82 = 0 ∨ m_82 = 1 := by rw [em_82]; (try dsimp only); (repeat' split) <;> first | exact Or.inl rfl | exact Or.inr rfl
      refine lv_aload_n hx hb dX0_branchOnIndex_82 rfl (lv_at hl 0 rfl) ?_
      refine va_get (D := D) (ci := 0) (v := .ref a_ins) (C := RX0) (T := TX0) (N := 2) hx hb hts in_X0 hown hK hP 0 rfl rfl 1 (by decide) q_1 (fun _ h9 => h9) rfl dX0_branchOnIndex_83 ?_
      refine va_getN (D := D) (ci := 4) (v := .int v_a) (C := RX4) (T := TX4) (N := 8) hx hb hts in_X4 hown hK hP 1 rfl rfl 6 (by decide) n_2 (fun _ h9 => h9) rfl dX0_branchOnIndex_86 ?_
      have hPc : va_P D vwCl (wX0_goOnAtIf cI cB a_co a_ins a_mc a_me a_ps a_rg v_fault v_word) H := hP.sub [0, 2, 3] rfl
      have hDc : va_D A (wX0_goOnAtIf cI cB a_co a_ins a_mc a_me a_ps a_rg v_fault v_word) := hD.sub [0, 2, 3] (by decide) rfl
      have hFc := va_free (wc := (wX0_goOnAtIf cI cB a_co a_ins a_mc a_me a_ps a_rg v_fault v_word)) hD hS hA [0, 2, 3] rfl
      refine va_callv (va_runV (As := [.int m_82, .int v_a]) (rest := []) ⟨hx, hb, hml, hown, hts⟩ (kX0_goOnAtIf l D cI cB a_co a_ins a_mc a_me a_ps a_rg H.size v_fault v_word m_82 v_a) (cwV 2 hts (gd_V wd_25 wd_26 wd_27 wd_28 wd_16) rfl rfl rfl hdX0_goOnAtIf ⟨Nat.le_of_ble_eq_true rfl, Nat.le_of_ble_eq_true rfl⟩) (preV_std (ci := 0) (q0 := 0) hPc hK hDc hNW rfl rfl) rfl rfl hl.1 rfl (lv_room (Nat.le_of_ble_eq_true rfl)) dX0_branchOnIndex_89 ⟨Nat.zero_le _, Nat.zero_le _⟩) hS (fun q _ h => hFc q h) hFc (fun u_89 t9 H1 locs ht9 hvm9 hw9 hB9 hz9 hk9 hS => ?_)
      have eu_89 : u_89 = fX0_goOnAtIf m_82 v_a v_word := hw9
      obtain ⟨hP, hD⟩ := back_std (w1 := (wX0_goOnAtIf cI cB a_co a_ins a_mc a_me a_ps a_rg v_fault u_89)) (w2 := (wX0_branchOnIndex cI cB a_co a_ins a_mc a_me a_ps a_rg v_op v_i v_r v_s v_a v_b v_fault u_89 u_59)) (wr := [(a_ins, .inr (4, [.ref a_mc, .ref a_me, .int v_op, .int v_i, .int v_r, .int v_s, .int v_a, .int v_b])), (a_rg, .inl (cI, 16, .inl u_59))]) hP hD [0, 2, 3] [1, 4] [2, 0, 3, 4, 1] rfl rfl (by decide) (by decide) hk9 hFc hB9 ht9 (by decide) rfl
      clear hB9 hk9 hz9 hvm9 ht9 hFc hPc hDc
      generalize H1 = H at hP hS ⊢
      have hf9 : (u_89, u_59) = fX0_branchOnIndex x0 v_r v_s v_a v_word v_rF := by subst em_82; subst em_73; subst ex_46; simp only [fX0_branchOnIndex, ← er_13, ← er_28, ← er_42, ← eu_59, ← eu_89]
      exact W.vret hx hb hr (fun t9 ht9 hW9 => ⟨⟨(u_89, u_59), rfl, hf9, ⟨by rw [ht9]; exact hP, va_K.moved hW9.alike hK, hD⟩⟩, hS.F ht9⟩) hS.2.2 dX0_branchOnIndex_92
    refine lv_icmp_ne (tgt := 81) hx hb dX0_branchOnIndex_74 (by decide) (fun c_74 => ?_) (fun c_74 => ?_)
    · skip
      refine lv_iconst (v := 0) hx hb dX0_branchOnIndex_81 (by decide) ?_
      exact J_82 0 (by simp only [if_neg c_74]) _ _ hP hD hS ls (lv_sub hl [0, 1, 2, 3] rfl)
    · skip
      refine lv_iconst (v := 1) hx hb dX0_branchOnIndex_77 (by decide) ?_
      refine lv_goto (tgt := 82) hx hb dX0_branchOnIndex_78 (by decide) ?_
      exact J_82 1 (by simp only [if_pos c_74]) _ _ hP hD hS ls (lv_sub hl [0, 1, 2, 3] rfl)
  refine lv_icmp_le (tgt := 72) hx hb dX0_branchOnIndex_65 (by decide) (fun c_65 => ?_) (fun c_65 => ?_)
  · skip
    refine lv_iconst (v := 0) hx hb dX0_branchOnIndex_72 (by decide) ?_
    exact J_73 0 (by simp only [if_pos c_65]) _ _ hP hD hS ls (lv_sub hl [2, 3, 1, 0] rfl)
  · skip
    refine lv_iconst (v := 1) hx hb dX0_branchOnIndex_68 (by decide) ?_
    refine lv_goto (tgt := 73) hx hb dX0_branchOnIndex_69 (by decide) ?_
    exact J_73 1 (by simp only [if_neg c_65]) _ _ hP hD hS ls (lv_sub hl [2, 3, 1, 0] rfl)
theorem hdX0_branchOnIndex : yX0_branchOnIndex.cls = RX0 ∧ yX0_branchOnIndex.cls ≠ "java/lang/invoke/MethodHandle" ∧ yX0_branchOnIndex.cls ≠ "java/lang/invoke/VarHandle" ∧ (parseMethodDescriptor yX0_branchOnIndex.desc).map (fun d => d.parameters.length) = some 1 := by decide +kernel
noncomputable def fX0_setProgramMask (v_r : Int32) (v_word : Int64) (v_rF : (Nat → Int32)) : Int64 :=
  let r_18 := fX5_reg v_r v_rF
  let u_24 := fX7_setConditionAndProgramMask (r_18 >>> (24 &&& 31)) v_word
  u_24
abbrev wX0_setProgramMask (cI cB : ClassId) (a_co a_ins a_mc a_me a_ps a_rg : Nat) (v_op : Int32) (v_i : Int32) (v_r : Int32) (v_s : Int32) (v_a : Int32) (v_b : Int32) (v_fault : Int32) (v_word : Int64) (v_rF : (Nat → Int32)) : va_W := [(a_co, .inr (0, [.ref a_mc, .ref a_ins])), (a_ins, .inr (4, [.ref a_mc, .ref a_me, .int v_op, .int v_i, .int v_r, .int v_s, .int v_a, .int v_b])), (a_mc, .inr (5, [.ref a_me, .ref a_ps, .ref a_rg, .int v_fault])), (a_ps, .inr (7, [.long v_word])), (a_rg, .inl (cI, 16, .inl v_rF))]
abbrev rmX0_setProgramMask : Room := { frames := 2, cells := 0, slots := 0, locals := 47 }
abbrev qX0_setProgramMask (D : va_G) (cI cB : ClassId) (a_co a_ins a_mc a_me a_ps a_rg : Nat) (v_op : Int32) (v_i : Int32) (v_r : Int32) (v_s : Int32) (v_a : Int32) (v_b : Int32) (v_fault : Int32) (v_word : Int64) (v_rF : (Nat → Int32)) : (Nat → Prop) → Array Value → State → Outcome → State → Prop := fun A9 => va_Qv (fun (u9 : Int64) => u9 = fX0_setProgramMask v_r v_word v_rF) (fun u9 t9 => atW D (TYS cI cB) A9 (wX0_setProgramMask cI cB a_co a_ins a_mc a_me a_ps a_rg v_op v_i v_r v_s v_a v_b v_fault u9 v_rF) t9) A9
set_option maxHeartbeats 4000000 in
set_option maxRecDepth 100000 in
theorem kX0_setProgramMask (l : Launch) (D : va_G) (cI cB : ClassId) (a_co a_ins a_mc a_me a_ps a_rg : Nat) (sz : Nat) (v_op : Int32) (v_i : Int32) (v_r : Int32) (v_s : Int32) (v_a : Int32) (v_b : Int32) (v_fault : Int32) (v_word : Int64) (v_rF : (Nat → Int32)) : MetW l yX0_setProgramMask (WK yX0_setProgramMask cX0_setProgramMask 1 none) rmX0_setProgramMask D (TYS cI cB) (wX0_setProgramMask cI cB a_co a_ins a_mc a_me a_ps a_rg v_op v_i v_r v_s v_a v_b v_fault v_word v_rF) sz [.ref a_co] (qX0_setProgramMask D cI cB a_co a_ins a_mc a_me a_ps a_rg v_op v_i v_r v_s v_a v_b v_fault v_word v_rF) 0 0 := by
  refine met_std (by decide) rfl (Nat.le_of_ble_eq_true rfl) ?_
  intro p e s m below meth c A ls H hx hb hr hml hown hts hlocks hA hP hK hD hS hNW hl
  have hl : lv_has ls 1 [(0, .ref a_co)] := hl
  have q_0 := hts _ (List.mem_cons_of_mem _ wd_4)
  have q_1 := hts _ (List.mem_cons_of_mem _ wd_5)
  have n_0 := hNW.f (A := ([.ref a_co] : List Value).toArray) ("MainframeCore$Control", 25, "MainframeCore$Machine", "psw", "LMainframeCore$Psw;", "MainframeCore") (by decide +kernel)
  have n_1 := hNW.f (A := ([.ref a_co] : List Value).toArray) ("MainframeCore$Control", 19, "MainframeCore$Instruction", "\x72", "I", "MainframeCore") (by decide +kernel)
  refine lv_aload_n hx hb dX0_setProgramMask_0 rfl (lv_at hl 0 rfl) ?_
  refine va_get (D := D) (ci := 0) (v := .ref a_mc) (C := RX0) (T := TX0) (N := 2) hx hb hts in_X0 hown hK hP 0 rfl rfl 0 (by decide) q_0 (fun _ h9 => h9) rfl dX0_setProgramMask_1 ?_
  refine va_getN (D := D) (ci := 5) (v := .ref a_ps) (C := RX5) (T := TX5) (N := 4) hx hb hts in_X5 hown hK hP 2 rfl rfl 1 (by decide) n_0 (fun _ h9 => h9) rfl dX0_setProgramMask_4 ?_
  refine lv_aload_n hx hb dX0_setProgramMask_7 rfl (lv_at hl 0 rfl) ?_
  refine va_get (D := D) (ci := 0) (v := .ref a_mc) (C := RX0) (T := TX0) (N := 2) hx hb hts in_X0 hown hK hP 0 rfl rfl 0 (by decide) q_0 (fun _ h9 => h9) rfl dX0_setProgramMask_8 ?_
  refine lv_aload_n hx hb dX0_setProgramMask_11 rfl (lv_at hl 0 rfl) ?_
  refine va_get (D := D) (ci := 0) (v := .ref a_ins) (C := RX0) (T := TX0) (N := 2) hx hb hts in_X0 hown hK hP 0 rfl rfl 1 (by decide) q_1 (fun _ h9 => h9) rfl dX0_setProgramMask_12 ?_
  refine va_getN (D := D) (ci := 4) (v := .int v_r) (C := RX4) (T := TX4) (N := 8) hx hb hts in_X4 hown hK hP 1 rfl rfl 4 (by decide) n_1 (fun _ h9 => h9) rfl dX0_setProgramMask_15 ?_
  have hPc : va_P D vwCl (wX5_reg cI cB a_mc a_me a_ps a_rg v_fault v_rF) H := hP.sub [2, 4] rfl
  have hDc : va_D A (wX5_reg cI cB a_mc a_me a_ps a_rg v_fault v_rF) := hD.sub [2, 4] (by decide) rfl
  have hFc := va_free (wc := (wX5_reg cI cB a_mc a_me a_ps a_rg v_fault v_rF)) hD hS hA [2, 4] rfl
  refine va_calli (va_runV (As := [.int v_r]) (rest := [.ref a_ps]) ⟨hx, hb, hml, hown, hts⟩ (kX5_reg l D cI cB a_mc a_me a_ps a_rg H.size v_fault v_rF v_r) (cwV 1 hts (gd_V wd_30 wd_31 wd_32 wd_24 wd_29) rfl rfl rfl hdX5_reg ⟨Nat.le_of_ble_eq_true rfl, Nat.le_of_ble_eq_true rfl⟩) (preV_std (ci := 5) (q0 := 0) hPc hK hDc hNW rfl rfl) rfl rfl hl.1 rfl (lv_room (Nat.le_of_ble_eq_true rfl)) dX0_setProgramMask_18 ⟨Nat.zero_le _, Nat.zero_le _⟩) hS (fun q _ h => hFc q h) hFc (fun r_18 u_18 t9 H1 locs ht9 hvm9 hw9 hB9 hz9 hk9 hS => ?_)
  have er_18 : r_18 = fX5_reg v_r v_rF := hw9
  obtain ⟨hP, hD⟩ := back_std (w1 := (wX5_reg cI cB a_mc a_me a_ps a_rg v_fault v_rF)) (w2 := (wX0_setProgramMask cI cB a_co a_ins a_mc a_me a_ps a_rg v_op v_i v_r v_s v_a v_b v_fault v_word v_rF)) (wr := [(a_co, .inr (0, [.ref a_mc, .ref a_ins])), (a_ins, .inr (4, [.ref a_mc, .ref a_me, .int v_op, .int v_i, .int v_r, .int v_s, .int v_a, .int v_b])), (a_ps, .inr (7, [.long v_word]))]) hP hD [2, 4] [0, 1, 3] [0, 1, 3, 2, 4] rfl rfl (by decide) (by decide) hk9 hFc hB9 ht9 (by decide) rfl
  clear hB9 hk9 hz9 hvm9 ht9 hFc hPc hDc
  generalize H1 = H at hP hS ⊢
  refine lv_bipush (v := 24) hx hb dX0_setProgramMask_21 (by decide) ?_
  refine lv_ishr hx hb dX0_setProgramMask_23 ?_
  have hPc : va_P D vwCl (wX7_setConditionAndProgramMask cI cB a_ps v_word) H := hP.sub [3] rfl
  have hDc : va_D A (wX7_setConditionAndProgramMask cI cB a_ps v_word) := hD.sub [3] (by decide) rfl
  have hFc := va_free (wc := (wX7_setConditionAndProgramMask cI cB a_ps v_word)) hD hS hA [3] rfl
  refine va_callv (va_runV (As := [.int ((r_18 >>> (24 &&& 31)))]) (rest := []) ⟨hx, hb, hml, hown, hts⟩ (kX7_setConditionAndProgramMask l D cI cB a_ps H.size v_word (r_18 >>> (24 &&& 31))) (cwV 1 hts (gd_V wd_42 wd_43 wd_44 wd_15 wd_40) rfl rfl rfl hdX7_setConditionAndProgramMask ⟨Nat.le_of_ble_eq_true rfl, Nat.le_of_ble_eq_true rfl⟩) (preV_std (ci := 7) (q0 := 0) hPc hK hDc hNW rfl rfl) rfl rfl hl.1 rfl (lv_room (Nat.le_of_ble_eq_true rfl)) dX0_setProgramMask_24 ⟨Nat.zero_le _, Nat.zero_le _⟩) hS (fun q _ h => hFc q h) hFc (fun u_24 t9 H1 locs ht9 hvm9 hw9 hB9 hz9 hk9 hS => ?_)
  have eu_24 : u_24 = fX7_setConditionAndProgramMask (r_18 >>> (24 &&& 31)) v_word := hw9
  obtain ⟨hP, hD⟩ := back_std (w1 := (wX7_setConditionAndProgramMask cI cB a_ps u_24)) (w2 := (wX0_setProgramMask cI cB a_co a_ins a_mc a_me a_ps a_rg v_op v_i v_r v_s v_a v_b v_fault u_24 v_rF)) (wr := [(a_co, .inr (0, [.ref a_mc, .ref a_ins])), (a_ins, .inr (4, [.ref a_mc, .ref a_me, .int v_op, .int v_i, .int v_r, .int v_s, .int v_a, .int v_b])), (a_mc, .inr (5, [.ref a_me, .ref a_ps, .ref a_rg, .int v_fault])), (a_rg, .inl (cI, 16, .inl v_rF))]) hP hD [3] [0, 1, 2, 4] [0, 1, 2, 4, 3] rfl rfl (by decide) (by decide) hk9 hFc hB9 ht9 (by decide) rfl
  clear hB9 hk9 hz9 hvm9 ht9 hFc hPc hDc
  generalize H1 = H at hP hS ⊢
  have hf9 : u_24 = fX0_setProgramMask v_r v_word v_rF := by simp only [fX0_setProgramMask, ← er_18, ← eu_24]
  exact W.vret hx hb hr (fun t9 ht9 hW9 => ⟨⟨u_24, rfl, hf9, ⟨by rw [ht9]; exact hP, va_K.moved hW9.alike hK, hD⟩⟩, hS.F ht9⟩) hS.2.2 dX0_setProgramMask_27
theorem hdX0_setProgramMask : yX0_setProgramMask.cls = RX0 ∧ yX0_setProgramMask.cls ≠ "java/lang/invoke/MethodHandle" ∧ yX0_setProgramMask.cls ≠ "java/lang/invoke/VarHandle" ∧ (parseMethodDescriptor yX0_setProgramMask.desc).map (fun d => d.parameters.length) = some 0 := by decide +kernel
noncomputable def fX0_demandBlock (v_s : Int32) (v_fault : Int32) (v_word : Int64) (v_rF : (Nat → Int32)) : (Int32 × Int32) :=
  let r_11 := fX5_reg v_s v_rF
  let x_17 := (r_11 &&& 16777215)
  let u_22 := fX5_demandSupervisor v_fault v_word
  let u_32 := fX5_demandAligned x_17 16 u_22
  if x_17 < 8192 then (((x_17 / 2048), u_32)) else (let u_47 := fX5_fail 5 u_32; ((x_17 / 2048), u_47))
abbrev wX0_demandBlock (cI cB : ClassId) (a_co a_ins a_mc a_me a_ps a_rg : Nat) (v_op : Int32) (v_i : Int32) (v_r : Int32) (v_s : Int32) (v_a : Int32) (v_b : Int32) (v_fault : Int32) (v_word : Int64) (v_rF : (Nat → Int32)) : va_W := [(a_co, .inr (0, [.ref a_mc, .ref a_ins])), (a_ins, .inr (4, [.ref a_mc, .ref a_me, .int v_op, .int v_i, .int v_r, .int v_s, .int v_a, .int v_b])), (a_mc, .inr (5, [.ref a_me, .ref a_ps, .ref a_rg, .int v_fault])), (a_ps, .inr (7, [.long v_word])), (a_rg, .inl (cI, 16, .inl v_rF))]
abbrev rmX0_demandBlock : Room := { frames := 2, cells := 0, slots := 0, locals := 43 }
abbrev qX0_demandBlock (D : va_G) (cI cB : ClassId) (a_co a_ins a_mc a_me a_ps a_rg : Nat) (v_op : Int32) (v_i : Int32) (v_r : Int32) (v_s : Int32) (v_a : Int32) (v_b : Int32) (v_fault : Int32) (v_word : Int64) (v_rF : (Nat → Int32)) : (Nat → Prop) → Array Value → State → Outcome → State → Prop := fun A9 => va_Qi (fun (r9 : Int32) (u9 : Int32) => r9 = (fX0_demandBlock v_s v_fault v_word v_rF).1 ∧ u9 = (fX0_demandBlock v_s v_fault v_word v_rF).2) (fun u9 t9 => atW D (TYS cI cB) A9 (wX0_demandBlock cI cB a_co a_ins a_mc a_me a_ps a_rg v_op v_i v_r v_s v_a v_b u9 v_word v_rF) t9) A9
set_option maxHeartbeats 4000000 in
set_option maxRecDepth 100000 in
theorem kX0_demandBlock (l : Launch) (D : va_G) (cI cB : ClassId) (a_co a_ins a_mc a_me a_ps a_rg : Nat) (sz : Nat) (v_op : Int32) (v_i : Int32) (v_r : Int32) (v_s : Int32) (v_a : Int32) (v_b : Int32) (v_fault : Int32) (v_word : Int64) (v_rF : (Nat → Int32)) : MetW l yX0_demandBlock (WK yX0_demandBlock cX0_demandBlock 2 (some .int)) rmX0_demandBlock D (TYS cI cB) (wX0_demandBlock cI cB a_co a_ins a_mc a_me a_ps a_rg v_op v_i v_r v_s v_a v_b v_fault v_word v_rF) sz [.ref a_co] (qX0_demandBlock D cI cB a_co a_ins a_mc a_me a_ps a_rg v_op v_i v_r v_s v_a v_b v_fault v_word v_rF) 0 0 := by
  refine met_std (by decide) rfl (Nat.le_of_ble_eq_true rfl) ?_
  intro p e s m below meth c A ls H hx hb hr hml hown hts hlocks hA hP hK hD hS hNW hl
  have hl : lv_has ls 2 [(0, .ref a_co)] := hl
  have q_0 := hts _ (List.mem_cons_of_mem _ wd_4)
  have q_1 := hts _ (List.mem_cons_of_mem _ wd_5)
  have q_2 := hts _ (List.mem_cons_of_mem _ wd_57)
  have n_0 := hNW.f (A := ([.ref a_co] : List Value).toArray) ("MainframeCore$Control", 53, "MainframeCore$Instruction", "s", "I", "MainframeCore") (by decide +kernel)
  refine lv_aload_n hx hb dX0_demandBlock_0 rfl (lv_at hl 0 rfl) ?_
  refine va_get (D := D) (ci := 0) (v := .ref a_mc) (C := RX0) (T := TX0) (N := 2) hx hb hts in_X0 hown hK hP 0 rfl rfl 0 (by decide) q_0 (fun _ h9 => h9) rfl dX0_demandBlock_1 ?_
  refine lv_aload_n hx hb dX0_demandBlock_4 rfl (lv_at hl 0 rfl) ?_
  refine va_get (D := D) (ci := 0) (v := .ref a_ins) (C := RX0) (T := TX0) (N := 2) hx hb hts in_X0 hown hK hP 0 rfl rfl 1 (by decide) q_1 (fun _ h9 => h9) rfl dX0_demandBlock_5 ?_
  refine va_getN (D := D) (ci := 4) (v := .int v_s) (C := RX4) (T := TX4) (N := 8) hx hb hts in_X4 hown hK hP 1 rfl rfl 5 (by decide) n_0 (fun _ h9 => h9) rfl dX0_demandBlock_8 ?_
  have hPc : va_P D vwCl (wX5_reg cI cB a_mc a_me a_ps a_rg v_fault v_rF) H := hP.sub [2, 4] rfl
  have hDc : va_D A (wX5_reg cI cB a_mc a_me a_ps a_rg v_fault v_rF) := hD.sub [2, 4] (by decide) rfl
  have hFc := va_free (wc := (wX5_reg cI cB a_mc a_me a_ps a_rg v_fault v_rF)) hD hS hA [2, 4] rfl
  refine va_calli (va_runV (As := [.int v_s]) (rest := []) ⟨hx, hb, hml, hown, hts⟩ (kX5_reg l D cI cB a_mc a_me a_ps a_rg H.size v_fault v_rF v_s) (cwV 1 hts (gd_V wd_30 wd_31 wd_32 wd_24 wd_29) rfl rfl rfl hdX5_reg ⟨Nat.le_of_ble_eq_true rfl, Nat.le_of_ble_eq_true rfl⟩) (preV_std (ci := 5) (q0 := 0) hPc hK hDc hNW rfl rfl) rfl rfl hl.1 rfl (lv_room (Nat.le_of_ble_eq_true rfl)) dX0_demandBlock_11 ⟨Nat.zero_le _, Nat.zero_le _⟩) hS (fun q _ h => hFc q h) hFc (fun r_11 u_11 t9 H1 locs ht9 hvm9 hw9 hB9 hz9 hk9 hS => ?_)
  have er_11 : r_11 = fX5_reg v_s v_rF := hw9
  obtain ⟨hP, hD⟩ := back_std (w1 := (wX5_reg cI cB a_mc a_me a_ps a_rg v_fault v_rF)) (w2 := (wX0_demandBlock cI cB a_co a_ins a_mc a_me a_ps a_rg v_op v_i v_r v_s v_a v_b v_fault v_word v_rF)) (wr := [(a_co, .inr (0, [.ref a_mc, .ref a_ins])), (a_ins, .inr (4, [.ref a_mc, .ref a_me, .int v_op, .int v_i, .int v_r, .int v_s, .int v_a, .int v_b])), (a_ps, .inr (7, [.long v_word]))]) hP hD [2, 4] [0, 1, 3] [0, 1, 3, 2, 4] rfl rfl (by decide) (by decide) hk9 hFc hB9 ht9 (by decide) rfl
  clear hB9 hk9 hz9 hvm9 ht9 hFc hPc hDc
  generalize H1 = H at hP hS ⊢
  refine lv_ldc (v := 16777215) hx hb hown q_2 dX0_demandBlock_14 ?_
  refine lv_iand hx hb dX0_demandBlock_16 ?_
  refine lv_topi (fun x_17 ex_17 => ?_)
  refine lv_istore_n (lv' := [(1, .int x_17), (0, .ref a_co)]) hx hb dX0_demandBlock_17 rfl hl (by decide) rfl (fun ls hl => ?_)
  refine lv_aload_n hx hb dX0_demandBlock_18 rfl (lv_at hl 1 rfl) ?_
  refine va_get (D := D) (ci := 0) (v := .ref a_mc) (C := RX0) (T := TX0) (N := 2) hx hb hts in_X0 hown hK hP 0 rfl rfl 0 (by decide) q_0 (fun _ h9 => h9) rfl dX0_demandBlock_19 ?_
  have hPc : va_P D vwCl (wX5_demandSupervisor cI cB a_mc a_me a_ps a_rg v_fault v_word) H := hP.sub [2, 3] rfl
  have hDc : va_D A (wX5_demandSupervisor cI cB a_mc a_me a_ps a_rg v_fault v_word) := hD.sub [2, 3] (by decide) rfl
  have hFc := va_free (wc := (wX5_demandSupervisor cI cB a_mc a_me a_ps a_rg v_fault v_word)) hD hS hA [2, 3] rfl
  refine va_callv (va_runV (As := []) (rest := []) ⟨hx, hb, hml, hown, hts⟩ (kX5_demandSupervisor l D cI cB a_mc a_me a_ps a_rg H.size v_fault v_word ) (cwV 0 hts (gd_V wd_58 wd_59 wd_60 wd_24 wd_48) rfl rfl rfl hdX5_demandSupervisor ⟨Nat.le_of_ble_eq_true rfl, Nat.le_of_ble_eq_true rfl⟩) (preV_std (ci := 5) (q0 := 0) hPc hK hDc hNW rfl rfl) rfl rfl hl.1 rfl (lv_room (Nat.le_of_ble_eq_true rfl)) dX0_demandBlock_22 ⟨Nat.zero_le _, Nat.zero_le _⟩) hS (fun q _ h => hFc q h) hFc (fun u_22 t9 H1 locs ht9 hvm9 hw9 hB9 hz9 hk9 hS => ?_)
  have eu_22 : u_22 = fX5_demandSupervisor v_fault v_word := hw9
  obtain ⟨hP, hD⟩ := back_std (w1 := (wX5_demandSupervisor cI cB a_mc a_me a_ps a_rg u_22 v_word)) (w2 := (wX0_demandBlock cI cB a_co a_ins a_mc a_me a_ps a_rg v_op v_i v_r v_s v_a v_b u_22 v_word v_rF)) (wr := [(a_co, .inr (0, [.ref a_mc, .ref a_ins])), (a_ins, .inr (4, [.ref a_mc, .ref a_me, .int v_op, .int v_i, .int v_r, .int v_s, .int v_a, .int v_b])), (a_rg, .inl (cI, 16, .inl v_rF))]) hP hD [2, 3] [0, 1, 4] [0, 1, 3, 4, 2] rfl rfl (by decide) (by decide) hk9 hFc hB9 ht9 (by decide) rfl
  clear hB9 hk9 hz9 hvm9 ht9 hFc hPc hDc
  generalize H1 = H at hP hS ⊢
  refine lv_aload_n hx hb dX0_demandBlock_25 rfl (lv_at hl 1 rfl) ?_
  refine va_get (D := D) (ci := 0) (v := .ref a_mc) (C := RX0) (T := TX0) (N := 2) hx hb hts in_X0 hown hK hP 0 rfl rfl 0 (by decide) q_0 (fun _ h9 => h9) rfl dX0_demandBlock_26 ?_
  refine lv_iload_n hx hb dX0_demandBlock_29 rfl (lv_at hl 0 rfl) ?_
  refine lv_bipush (v := 16) hx hb dX0_demandBlock_30 (by decide) ?_
  have hPc : va_P D vwCl (wX5_demandAligned cI cB a_mc a_me a_ps a_rg u_22) H := hP.sub [2] rfl
  have hDc : va_D A (wX5_demandAligned cI cB a_mc a_me a_ps a_rg u_22) := hD.sub [2] (by decide) rfl
  have hFc := va_free (wc := (wX5_demandAligned cI cB a_mc a_me a_ps a_rg u_22)) hD hS hA [2] rfl
  refine va_callv (va_runV (As := [.int x_17, .int 16]) (rest := []) ⟨hx, hb, hml, hown, hts⟩ (kX5_demandAligned l D cI cB a_mc a_me a_ps a_rg H.size u_22 x_17 16) (cwV 2 hts (gd_V wd_61 wd_62 wd_63 wd_24 wd_56) rfl rfl rfl hdX5_demandAligned ⟨Nat.le_of_ble_eq_true rfl, Nat.le_of_ble_eq_true rfl⟩) (preV_std (ci := 5) (q0 := 0) hPc hK hDc hNW rfl rfl) rfl rfl hl.1 rfl (lv_room (Nat.le_of_ble_eq_true rfl)) dX0_demandBlock_32 ⟨Nat.zero_le _, Nat.zero_le _⟩) hS (fun q _ h => hFc q h) hFc (fun u_32 t9 H1 locs ht9 hvm9 hw9 hB9 hz9 hk9 hS => ?_)
  have eu_32 : u_32 = fX5_demandAligned x_17 16 u_22 := hw9
  obtain ⟨hP, hD⟩ := back_std (w1 := (wX5_demandAligned cI cB a_mc a_me a_ps a_rg u_32)) (w2 := (wX0_demandBlock cI cB a_co a_ins a_mc a_me a_ps a_rg v_op v_i v_r v_s v_a v_b u_32 v_word v_rF)) (wr := [(a_co, .inr (0, [.ref a_mc, .ref a_ins])), (a_ins, .inr (4, [.ref a_mc, .ref a_me, .int v_op, .int v_i, .int v_r, .int v_s, .int v_a, .int v_b])), (a_ps, .inr (7, [.long v_word])), (a_rg, .inl (cI, 16, .inl v_rF))]) hP hD [2] [0, 1, 3, 4] [0, 1, 4, 2, 3] rfl rfl (by decide) (by decide) hk9 hFc hB9 ht9 (by decide) rfl
  clear hB9 hk9 hz9 hvm9 ht9 hFc hPc hDc
  generalize H1 = H at hP hS ⊢
  refine lv_iload_n hx hb dX0_demandBlock_35 rfl (lv_at hl 0 rfl) ?_
  refine lv_sipush (v := 8192) hx hb dX0_demandBlock_36 (by decide) ?_
  refine lv_icmp_lt (tgt := 50) hx hb dX0_demandBlock_39 (by decide) (fun c_39 => ?_) (fun c_39 => ?_)
  · skip
    refine lv_iload_n hx hb dX0_demandBlock_50 rfl (lv_at hl 0 rfl) ?_
    refine lv_sipush (v := 2048) hx hb dX0_demandBlock_51 (by decide) ?_
    refine lv_idiv hx hb dX0_demandBlock_54 (by decide) ?_
    have hf9 : ((x_17 / 2048), u_32) = fX0_demandBlock v_s v_fault v_word v_rF := by subst ex_17; simp only [fX0_demandBlock, ← er_11, ← eu_22, ← eu_32, if_pos c_39]
    exact W.iret hx hb hr (fun t9 ht9 hW9 => ⟨⟨(x_17 / 2048), u_32, rfl, ⟨by rw [← hf9], by rw [← hf9]⟩, ⟨by rw [ht9]; exact hP, va_K.moved hW9.alike hK, hD⟩⟩, hS.F ht9⟩) hS.2.2 dX0_demandBlock_55
  · skip
    refine lv_aload_n hx hb dX0_demandBlock_42 rfl (lv_at hl 1 rfl) ?_
    refine va_get (D := D) (ci := 0) (v := .ref a_mc) (C := RX0) (T := TX0) (N := 2) hx hb hts in_X0 hown hK hP 0 rfl rfl 0 (by decide) q_0 (fun _ h9 => h9) rfl dX0_demandBlock_43 ?_
    refine lv_iconst (v := 5) hx hb dX0_demandBlock_46 (by decide) ?_
    have hPc : va_P D vwCl (wX5_fail cI cB a_mc a_me a_ps a_rg u_32) H := hP.sub [2] rfl
    have hDc : va_D A (wX5_fail cI cB a_mc a_me a_ps a_rg u_32) := hD.sub [2] (by decide) rfl
    have hFc := va_free (wc := (wX5_fail cI cB a_mc a_me a_ps a_rg u_32)) hD hS hA [2] rfl
    refine va_callv (va_runV (As := [.int 5]) (rest := []) ⟨hx, hb, hml, hown, hts⟩ (kX5_fail l D cI cB a_mc a_me a_ps a_rg H.size u_32 5) (cwV 1 hts (gd_V wd_64 wd_54 wd_55 wd_24 wd_46) rfl rfl rfl hdX5_fail ⟨Nat.le_of_ble_eq_true rfl, Nat.le_of_ble_eq_true rfl⟩) (preV_std (ci := 5) (q0 := 0) hPc hK hDc hNW rfl rfl) rfl rfl hl.1 rfl (lv_room (Nat.le_of_ble_eq_true rfl)) dX0_demandBlock_47 ⟨Nat.zero_le _, Nat.zero_le _⟩) hS (fun q _ h => hFc q h) hFc (fun u_47 t9 H1 locs ht9 hvm9 hw9 hB9 hz9 hk9 hS => ?_)
    have eu_47 : u_47 = fX5_fail 5 u_32 := hw9
    obtain ⟨hP, hD⟩ := back_std (w1 := (wX5_fail cI cB a_mc a_me a_ps a_rg u_47)) (w2 := (wX0_demandBlock cI cB a_co a_ins a_mc a_me a_ps a_rg v_op v_i v_r v_s v_a v_b u_47 v_word v_rF)) (wr := [(a_co, .inr (0, [.ref a_mc, .ref a_ins])), (a_ins, .inr (4, [.ref a_mc, .ref a_me, .int v_op, .int v_i, .int v_r, .int v_s, .int v_a, .int v_b])), (a_ps, .inr (7, [.long v_word])), (a_rg, .inl (cI, 16, .inl v_rF))]) hP hD [2] [0, 1, 3, 4] [0, 1, 4, 2, 3] rfl rfl (by decide) (by decide) hk9 hFc hB9 ht9 (by decide) rfl
    clear hB9 hk9 hz9 hvm9 ht9 hFc hPc hDc
    generalize H1 = H at hP hS ⊢
    refine lv_iload_n hx hb dX0_demandBlock_50 rfl (lv_at hl 0 rfl) ?_
    refine lv_sipush (v := 2048) hx hb dX0_demandBlock_51 (by decide) ?_
    refine lv_idiv hx hb dX0_demandBlock_54 (by decide) ?_
    have hf9 : ((x_17 / 2048), u_47) = fX0_demandBlock v_s v_fault v_word v_rF := by subst ex_17; simp only [fX0_demandBlock, ← er_11, ← eu_22, ← eu_32, ← eu_47, if_neg c_39]
    exact W.iret hx hb hr (fun t9 ht9 hW9 => ⟨⟨(x_17 / 2048), u_47, rfl, ⟨by rw [← hf9], by rw [← hf9]⟩, ⟨by rw [ht9]; exact hP, va_K.moved hW9.alike hK, hD⟩⟩, hS.F ht9⟩) hS.2.2 dX0_demandBlock_55
theorem hdX0_demandBlock : yX0_demandBlock.cls = RX0 ∧ yX0_demandBlock.cls ≠ "java/lang/invoke/MethodHandle" ∧ yX0_demandBlock.cls ≠ "java/lang/invoke/VarHandle" ∧ (parseMethodDescriptor yX0_demandBlock.desc).map (fun d => d.parameters.length) = some 0 := by decide +kernel
noncomputable def fX0_setKey (v_r : Int32) (v_s : Int32) (v_fault : Int32) (v_word : Int64) (v_kF : (Nat → Int32)) (v_rF : (Nat → Int32)) : (Int32 × (Nat → Int32)) :=
  let p_1 := fX0_demandBlock v_s v_fault v_word v_rF
  let r_1 := p_1.1
  let u_1 := p_1.2
  let r_9 := fX5_fine u_1
  if r_9 = 0 then ((u_1, v_kF)) else (let r_34 := fX5_reg v_r v_rF; let u_42 := fX6_setBlockKey r_1 ((r_34 >>> (3 &&& 31)) &&& 31) v_kF; (u_1, u_42))
abbrev wX0_setKey (cI cB : ClassId) (a_co a_ins a_mc a_me a_ps a_by a_ks a_rg : Nat) (v_op : Int32) (v_i : Int32) (v_r : Int32) (v_s : Int32) (v_a : Int32) (v_b : Int32) (v_fault : Int32) (v_word : Int64) (v_kF : (Nat → Int32)) (v_rF : (Nat → Int32)) : va_W := [(a_co, .inr (0, [.ref a_mc, .ref a_ins])), (a_ins, .inr (4, [.ref a_mc, .ref a_me, .int v_op, .int v_i, .int v_r, .int v_s, .int v_a, .int v_b])), (a_mc, .inr (5, [.ref a_me, .ref a_ps, .ref a_rg, .int v_fault])), (a_me, .inr (6, [.ref a_by, .ref a_ks])), (a_ps, .inr (7, [.long v_word])), (a_ks, .inl (cI, 4, .inl v_kF)), (a_rg, .inl (cI, 16, .inl v_rF))]
abbrev rmX0_setKey : Room := { frames := 3, cells := 0, slots := 0, locals := 64 }
abbrev qX0_setKey (D : va_G) (cI cB : ClassId) (a_co a_ins a_mc a_me a_ps a_by a_ks a_rg : Nat) (v_op : Int32) (v_i : Int32) (v_r : Int32) (v_s : Int32) (v_a : Int32) (v_b : Int32) (v_fault : Int32) (v_word : Int64) (v_kF : (Nat → Int32)) (v_rF : (Nat → Int32)) : (Nat → Prop) → Array Value → State → Outcome → State → Prop := fun A9 => va_Qv (fun (u9 : (Int32 × (Nat → Int32))) => u9 = fX0_setKey v_r v_s v_fault v_word v_kF v_rF) (fun u9 t9 => atW D (TYS cI cB) A9 (wX0_setKey cI cB a_co a_ins a_mc a_me a_ps a_by a_ks a_rg v_op v_i v_r v_s v_a v_b u9.1 v_word u9.2 v_rF) t9) A9
set_option maxHeartbeats 4000000 in
set_option maxRecDepth 100000 in
theorem kX0_setKey (l : Launch) (D : va_G) (cI cB : ClassId) (a_co a_ins a_mc a_me a_ps a_by a_ks a_rg : Nat) (sz : Nat) (v_op : Int32) (v_i : Int32) (v_r : Int32) (v_s : Int32) (v_a : Int32) (v_b : Int32) (v_fault : Int32) (v_word : Int64) (v_kF : (Nat → Int32)) (v_rF : (Nat → Int32)) : MetW l yX0_setKey (WK yX0_setKey cX0_setKey 2 none) rmX0_setKey D (TYS cI cB) (wX0_setKey cI cB a_co a_ins a_mc a_me a_ps a_by a_ks a_rg v_op v_i v_r v_s v_a v_b v_fault v_word v_kF v_rF) sz [.ref a_co] (qX0_setKey D cI cB a_co a_ins a_mc a_me a_ps a_by a_ks a_rg v_op v_i v_r v_s v_a v_b v_fault v_word v_kF v_rF) 0 0 := by
  refine met_std (by decide) rfl (Nat.le_of_ble_eq_true rfl) ?_
  intro p e s m below meth c A ls H hx hb hr hml hown hts hlocks hA hP hK hD hS hNW hl
  have hl : lv_has ls 2 [(0, .ref a_co)] := hl
  have q_0 := hts _ (List.mem_cons_of_mem _ wd_4)
  have q_1 := hts _ (List.mem_cons_of_mem _ wd_5)
  have n_0 := hNW.f (A := ([.ref a_co] : List Value).toArray) ("MainframeCore$Control", 73, "MainframeCore$Machine", "memory", "LMainframeCore$Memory;", "MainframeCore") (by decide +kernel)
  have n_1 := hNW.f (A := ([.ref a_co] : List Value).toArray) ("MainframeCore$Control", 19, "MainframeCore$Instruction", "\x72", "I", "MainframeCore") (by decide +kernel)
  refine lv_aload_n hx hb dX0_setKey_0 rfl (lv_at hl 0 rfl) ?_
  have hPc : va_P D vwCl (wX0_demandBlock cI cB a_co a_ins a_mc a_me a_ps a_rg v_op v_i v_r v_s v_a v_b v_fault v_word v_rF) H := hP.sub [0, 1, 2, 4, 6] rfl
  have hDc : va_D A (wX0_demandBlock cI cB a_co a_ins a_mc a_me a_ps a_rg v_op v_i v_r v_s v_a v_b v_fault v_word v_rF) := hD.sub [0, 1, 2, 4, 6] (by decide) rfl
  have hFc := va_free (wc := (wX0_demandBlock cI cB a_co a_ins a_mc a_me a_ps a_rg v_op v_i v_r v_s v_a v_b v_fault v_word v_rF)) hD hS hA [0, 1, 2, 4, 6] rfl
  refine va_calli (va_runV (As := []) (rest := []) ⟨hx, hb, hml, hown, hts⟩ (kX0_demandBlock l D cI cB a_co a_ins a_mc a_me a_ps a_rg H.size v_op v_i v_r v_s v_a v_b v_fault v_word v_rF ) (cwV 0 hts (gd_V wd_69 wd_70 wd_71 wd_28 wd_65) rfl rfl rfl hdX0_demandBlock ⟨Nat.le_of_ble_eq_true rfl, Nat.le_of_ble_eq_true rfl⟩) (preV_std (ci := 0) (q0 := 0) hPc hK hDc hNW rfl rfl) rfl rfl hl.1 rfl (lv_room (Nat.le_of_ble_eq_true rfl)) dX0_setKey_1 ⟨Nat.zero_le _, Nat.zero_le _⟩) hS (fun q _ h => hFc q h) hFc (fun r_1 u_1 t9 H1 locs ht9 hvm9 hw9 hB9 hz9 hk9 hS => ?_)
  obtain ⟨er_1, eu_1⟩ := hw9
  obtain ⟨hP, hD⟩ := back_std (w1 := (wX0_demandBlock cI cB a_co a_ins a_mc a_me a_ps a_rg v_op v_i v_r v_s v_a v_b u_1 v_word v_rF)) (w2 := (wX0_setKey cI cB a_co a_ins a_mc a_me a_ps a_by a_ks a_rg v_op v_i v_r v_s v_a v_b u_1 v_word v_kF v_rF)) (wr := [(a_me, .inr (6, [.ref a_by, .ref a_ks])), (a_ks, .inl (cI, 4, .inl v_kF))]) hP hD [0, 1, 2, 4, 6] [3, 5] [2, 3, 4, 0, 5, 1, 6] rfl rfl (by decide) (by decide) hk9 hFc hB9 ht9 (by decide) rfl
  clear hB9 hk9 hz9 hvm9 ht9 hFc hPc hDc
  generalize H1 = H at hP hS ⊢
  refine lv_istore_n (lv' := [(1, .int r_1), (0, .ref a_co)]) hx hb dX0_setKey_4 rfl hl (by decide) rfl (fun ls hl => ?_)
  refine lv_aload_n hx hb dX0_setKey_5 rfl (lv_at hl 1 rfl) ?_
  refine va_get (D := D) (ci := 0) (v := .ref a_mc) (C := RX0) (T := TX0) (N := 2) hx hb hts in_X0 hown hK hP 0 rfl rfl 0 (by decide) q_0 (fun _ h9 => h9) rfl dX0_setKey_6 ?_
  have hPc : va_P D vwCl (wX5_fine cI cB a_mc a_me a_ps a_rg u_1) H := hP.sub [2] rfl
  have hDc : va_D A (wX5_fine cI cB a_mc a_me a_ps a_rg u_1) := hD.sub [2] (by decide) rfl
  have hFc := va_free (wc := (wX5_fine cI cB a_mc a_me a_ps a_rg u_1)) hD hS hA [2] rfl
  refine va_calli (va_runV (As := []) (rest := []) ⟨hx, hb, hml, hown, hts⟩ (kX5_fine l D cI cB a_mc a_me a_ps a_rg H.size u_1 ) (cwV 0 hts (gd_V wd_72 wd_73 wd_74 wd_24 wd_66) rfl rfl rfl hdX5_fine ⟨Nat.le_of_ble_eq_true rfl, Nat.le_of_ble_eq_true rfl⟩) (preV_std (ci := 5) (q0 := 0) hPc hK hDc hNW rfl rfl) rfl rfl hl.1 rfl (lv_room (Nat.le_of_ble_eq_true rfl)) dX0_setKey_9 ⟨Nat.zero_le _, Nat.zero_le _⟩) hS (fun q _ h => hFc q h) hFc (fun r_9 u_9 t9 H1 locs ht9 hvm9 hw9 hB9 hz9 hk9 hS => ?_)
  have er_9 : r_9 = fX5_fine u_1 := hw9
  have zr_9 : r_9 = 0 ∨ r_9 = 1 := by rw [er_9]; exact zX5_fine _
  obtain ⟨hP, hD⟩ := back_std (w1 := (wX5_fine cI cB a_mc a_me a_ps a_rg u_1)) (w2 := (wX0_setKey cI cB a_co a_ins a_mc a_me a_ps a_by a_ks a_rg v_op v_i v_r v_s v_a v_b u_1 v_word v_kF v_rF)) (wr := [(a_co, .inr (0, [.ref a_mc, .ref a_ins])), (a_ins, .inr (4, [.ref a_mc, .ref a_me, .int v_op, .int v_i, .int v_r, .int v_s, .int v_a, .int v_b])), (a_me, .inr (6, [.ref a_by, .ref a_ks])), (a_ps, .inr (7, [.long v_word])), (a_ks, .inl (cI, 4, .inl v_kF)), (a_rg, .inl (cI, 16, .inl v_rF))]) hP hD [2] [0, 1, 3, 4, 5, 6] [0, 1, 6, 2, 3, 4, 5] rfl rfl (by decide) (by decide) hk9 hFc hB9 ht9 (by decide) rfl
  clear hB9 hk9 hz9 hvm9 ht9 hFc hPc hDc
  generalize H1 = H at hP hS ⊢
  refine lv_if_eq (tgt := 45) hx hb dX0_setKey_12 (by decide) (fun c_12 => ?_) (fun c_12 => ?_)
  · skip
    have hf9 : (u_1, v_kF) = fX0_setKey v_r v_s v_fault v_word v_kF v_rF := by simp only [fX0_setKey, ← er_1, ← eu_1, ← er_9, if_pos c_12]
    exact W.vret hx hb hr (fun t9 ht9 hW9 => ⟨⟨(u_1, v_kF), rfl, hf9, ⟨by rw [ht9]; exact hP, va_K.moved hW9.alike hK, hD⟩⟩, hS.F ht9⟩) hS.2.2 dX0_setKey_45
  · skip
    refine lv_aload_n hx hb dX0_setKey_15 rfl (lv_at hl 1 rfl) ?_
    refine va_get (D := D) (ci := 0) (v := .ref a_mc) (C := RX0) (T := TX0) (N := 2) hx hb hts in_X0 hown hK hP 0 rfl rfl 0 (by decide) q_0 (fun _ h9 => h9) rfl dX0_setKey_16 ?_
    refine va_getN (D := D) (ci := 5) (v := .ref a_me) (C := RX5) (T := TX5) (N := 4) hx hb hts in_X5 hown hK hP 2 rfl rfl 0 (by decide) n_0 (fun _ h9 => h9) rfl dX0_setKey_19 ?_
    refine lv_iload_n hx hb dX0_setKey_22 rfl (lv_at hl 0 rfl) ?_
    refine lv_aload_n hx hb dX0_setKey_23 rfl (lv_at hl 1 rfl) ?_
    refine va_get (D := D) (ci := 0) (v := .ref a_mc) (C := RX0) (T := TX0) (N := 2) hx hb hts in_X0 hown hK hP 0 rfl rfl 0 (by decide) q_0 (fun _ h9 => h9) rfl dX0_setKey_24 ?_
    refine lv_aload_n hx hb dX0_setKey_27 rfl (lv_at hl 1 rfl) ?_
    refine va_get (D := D) (ci := 0) (v := .ref a_ins) (C := RX0) (T := TX0) (N := 2) hx hb hts in_X0 hown hK hP 0 rfl rfl 1 (by decide) q_1 (fun _ h9 => h9) rfl dX0_setKey_28 ?_
    refine va_getN (D := D) (ci := 4) (v := .int v_r) (C := RX4) (T := TX4) (N := 8) hx hb hts in_X4 hown hK hP 1 rfl rfl 4 (by decide) n_1 (fun _ h9 => h9) rfl dX0_setKey_31 ?_
    have hPc : va_P D vwCl (wX5_reg cI cB a_mc a_me a_ps a_rg u_1 v_rF) H := hP.sub [2, 6] rfl
    have hDc : va_D A (wX5_reg cI cB a_mc a_me a_ps a_rg u_1 v_rF) := hD.sub [2, 6] (by decide) rfl
    have hFc := va_free (wc := (wX5_reg cI cB a_mc a_me a_ps a_rg u_1 v_rF)) hD hS hA [2, 6] rfl
    refine va_calli (va_runV (As := [.int v_r]) (rest := [.int r_1, .ref a_me]) ⟨hx, hb, hml, hown, hts⟩ (kX5_reg l D cI cB a_mc a_me a_ps a_rg H.size u_1 v_rF v_r) (cwV 1 hts (gd_V wd_30 wd_31 wd_32 wd_24 wd_29) rfl rfl rfl hdX5_reg ⟨Nat.le_of_ble_eq_true rfl, Nat.le_of_ble_eq_true rfl⟩) (preV_std (ci := 5) (q0 := 0) hPc hK hDc hNW rfl rfl) rfl rfl hl.1 rfl (lv_room (Nat.le_of_ble_eq_true rfl)) dX0_setKey_34 ⟨Nat.zero_le _, Nat.zero_le _⟩) hS (fun q _ h => hFc q h) hFc (fun r_34 u_34 t9 H1 locs ht9 hvm9 hw9 hB9 hz9 hk9 hS => ?_)
    have er_34 : r_34 = fX5_reg v_r v_rF := hw9
    obtain ⟨hP, hD⟩ := back_std (w1 := (wX5_reg cI cB a_mc a_me a_ps a_rg u_1 v_rF)) (w2 := (wX0_setKey cI cB a_co a_ins a_mc a_me a_ps a_by a_ks a_rg v_op v_i v_r v_s v_a v_b u_1 v_word v_kF v_rF)) (wr := [(a_co, .inr (0, [.ref a_mc, .ref a_ins])), (a_ins, .inr (4, [.ref a_mc, .ref a_me, .int v_op, .int v_i, .int v_r, .int v_s, .int v_a, .int v_b])), (a_me, .inr (6, [.ref a_by, .ref a_ks])), (a_ps, .inr (7, [.long v_word])), (a_ks, .inl (cI, 4, .inl v_kF))]) hP hD [2, 6] [0, 1, 3, 4, 5] [0, 1, 5, 2, 3, 4, 6] rfl rfl (by decide) (by decide) hk9 hFc hB9 ht9 (by decide) rfl
    clear hB9 hk9 hz9 hvm9 ht9 hFc hPc hDc
    generalize H1 = H at hP hS ⊢
    refine lv_iconst (v := 3) hx hb dX0_setKey_37 (by decide) ?_
    refine lv_ishr hx hb dX0_setKey_38 ?_
    refine lv_bipush (v := 31) hx hb dX0_setKey_39 (by decide) ?_
    refine lv_iand hx hb dX0_setKey_41 ?_
    have hPc : va_P D vwCl (wX6_setBlockKey cI cB a_me a_by a_ks v_kF) H := hP.sub [3, 5] rfl
    have hDc : va_D A (wX6_setBlockKey cI cB a_me a_by a_ks v_kF) := hD.sub [3, 5] (by decide) rfl
    have hFc := va_free (wc := (wX6_setBlockKey cI cB a_me a_by a_ks v_kF)) hD hS hA [3, 5] rfl
    refine va_callv (va_runV (As := [.int r_1, .int (((r_34 >>> (3 &&& 31)) &&& 31))]) (rest := []) ⟨hx, hb, hml, hown, hts⟩ (kX6_setBlockKey l D cI cB a_me a_by a_ks H.size v_kF r_1 ((r_34 >>> (3 &&& 31)) &&& 31)) (cwV 2 hts (gd_V wd_75 wd_76 wd_77 wd_78 wd_67) rfl rfl rfl hdX6_setBlockKey ⟨Nat.le_of_ble_eq_true rfl, Nat.le_of_ble_eq_true rfl⟩) (preV_std (ci := 6) (q0 := 0) hPc hK hDc hNW rfl rfl) rfl rfl hl.1 rfl (lv_room (Nat.le_of_ble_eq_true rfl)) dX0_setKey_42 ⟨Nat.zero_le _, Nat.zero_le _⟩) hS (fun q _ h => hFc q h) hFc (fun u_42 t9 H1 locs ht9 hvm9 hw9 hB9 hz9 hk9 hS => ?_)
    have eu_42 : u_42 = fX6_setBlockKey r_1 ((r_34 >>> (3 &&& 31)) &&& 31) v_kF := hw9
    obtain ⟨hP, hD⟩ := back_std (w1 := (wX6_setBlockKey cI cB a_me a_by a_ks u_42)) (w2 := (wX0_setKey cI cB a_co a_ins a_mc a_me a_ps a_by a_ks a_rg v_op v_i v_r v_s v_a v_b u_1 v_word u_42 v_rF)) (wr := [(a_co, .inr (0, [.ref a_mc, .ref a_ins])), (a_ins, .inr (4, [.ref a_mc, .ref a_me, .int v_op, .int v_i, .int v_r, .int v_s, .int v_a, .int v_b])), (a_mc, .inr (5, [.ref a_me, .ref a_ps, .ref a_rg, .int u_1])), (a_ps, .inr (7, [.long v_word])), (a_rg, .inl (cI, 16, .inl v_rF))]) hP hD [3, 5] [0, 1, 2, 4, 6] [0, 1, 2, 5, 3, 6, 4] rfl rfl (by decide) (by decide) hk9 hFc hB9 ht9 (by decide) rfl
    clear hB9 hk9 hz9 hvm9 ht9 hFc hPc hDc
    generalize H1 = H at hP hS ⊢
    have hf9 : (u_1, u_42) = fX0_setKey v_r v_s v_fault v_word v_kF v_rF := by simp only [fX0_setKey, ← er_1, ← eu_1, ← er_9, ← er_34, ← eu_42, if_neg c_12]
    exact W.vret hx hb hr (fun t9 ht9 hW9 => ⟨⟨(u_1, u_42), rfl, hf9, ⟨by rw [ht9]; exact hP, va_K.moved hW9.alike hK, hD⟩⟩, hS.F ht9⟩) hS.2.2 dX0_setKey_45
theorem hdX0_setKey : yX0_setKey.cls = RX0 ∧ yX0_setKey.cls ≠ "java/lang/invoke/MethodHandle" ∧ yX0_setKey.cls ≠ "java/lang/invoke/VarHandle" ∧ (parseMethodDescriptor yX0_setKey.desc).map (fun d => d.parameters.length) = some 0 := by decide +kernel
noncomputable def fX0_insertKey (v_r : Int32) (v_s : Int32) (v_fault : Int32) (v_word : Int64) (v_kF : (Nat → Int32)) (v_rF : (Nat → Int32)) : (Int32 × (Nat → Int32)) :=
  let p_1 := fX0_demandBlock v_s v_fault v_word v_rF
  let r_1 := p_1.1
  let u_1 := p_1.2
  let r_9 := fX5_fine u_1
  if r_9 = 0 then ((u_1, v_rF)) else (let r_34 := fX6_blockKey r_1 v_kF; let u_39 := fX5_setLastByte v_r (r_34 <<< (3 &&& 31)) v_rF; (u_1, u_39))
abbrev wX0_insertKey (cI cB : ClassId) (a_co a_ins a_mc a_me a_ps a_by a_ks a_rg : Nat) (v_op : Int32) (v_i : Int32) (v_r : Int32) (v_s : Int32) (v_a : Int32) (v_b : Int32) (v_fault : Int32) (v_word : Int64) (v_kF : (Nat → Int32)) (v_rF : (Nat → Int32)) : va_W := [(a_co, .inr (0, [.ref a_mc, .ref a_ins])), (a_ins, .inr (4, [.ref a_mc, .ref a_me, .int v_op, .int v_i, .int v_r, .int v_s, .int v_a, .int v_b])), (a_mc, .inr (5, [.ref a_me, .ref a_ps, .ref a_rg, .int v_fault])), (a_me, .inr (6, [.ref a_by, .ref a_ks])), (a_ps, .inr (7, [.long v_word])), (a_ks, .inl (cI, 4, .inl v_kF)), (a_rg, .inl (cI, 16, .inl v_rF))]
abbrev rmX0_insertKey : Room := { frames := 3, cells := 0, slots := 0, locals := 64 }
abbrev qX0_insertKey (D : va_G) (cI cB : ClassId) (a_co a_ins a_mc a_me a_ps a_by a_ks a_rg : Nat) (v_op : Int32) (v_i : Int32) (v_r : Int32) (v_s : Int32) (v_a : Int32) (v_b : Int32) (v_fault : Int32) (v_word : Int64) (v_kF : (Nat → Int32)) (v_rF : (Nat → Int32)) : (Nat → Prop) → Array Value → State → Outcome → State → Prop := fun A9 => va_Qv (fun (u9 : (Int32 × (Nat → Int32))) => u9 = fX0_insertKey v_r v_s v_fault v_word v_kF v_rF) (fun u9 t9 => atW D (TYS cI cB) A9 (wX0_insertKey cI cB a_co a_ins a_mc a_me a_ps a_by a_ks a_rg v_op v_i v_r v_s v_a v_b u9.1 v_word v_kF u9.2) t9) A9
set_option maxHeartbeats 4000000 in
set_option maxRecDepth 100000 in
theorem kX0_insertKey (l : Launch) (D : va_G) (cI cB : ClassId) (a_co a_ins a_mc a_me a_ps a_by a_ks a_rg : Nat) (sz : Nat) (v_op : Int32) (v_i : Int32) (v_r : Int32) (v_s : Int32) (v_a : Int32) (v_b : Int32) (v_fault : Int32) (v_word : Int64) (v_kF : (Nat → Int32)) (v_rF : (Nat → Int32)) : MetW l yX0_insertKey (WK yX0_insertKey cX0_insertKey 2 none) rmX0_insertKey D (TYS cI cB) (wX0_insertKey cI cB a_co a_ins a_mc a_me a_ps a_by a_ks a_rg v_op v_i v_r v_s v_a v_b v_fault v_word v_kF v_rF) sz [.ref a_co] (qX0_insertKey D cI cB a_co a_ins a_mc a_me a_ps a_by a_ks a_rg v_op v_i v_r v_s v_a v_b v_fault v_word v_kF v_rF) 0 0 := by
  refine met_std (by decide) rfl (Nat.le_of_ble_eq_true rfl) ?_
  intro p e s m below meth c A ls H hx hb hr hml hown hts hlocks hA hP hK hD hS hNW hl
  have hl : lv_has ls 2 [(0, .ref a_co)] := hl
  have q_0 := hts _ (List.mem_cons_of_mem _ wd_4)
  have q_1 := hts _ (List.mem_cons_of_mem _ wd_5)
  have n_0 := hNW.f (A := ([.ref a_co] : List Value).toArray) ("MainframeCore$Control", 19, "MainframeCore$Instruction", "\x72", "I", "MainframeCore") (by decide +kernel)
  have n_1 := hNW.f (A := ([.ref a_co] : List Value).toArray) ("MainframeCore$Control", 73, "MainframeCore$Machine", "memory", "LMainframeCore$Memory;", "MainframeCore") (by decide +kernel)
  refine lv_aload_n hx hb dX0_insertKey_0 rfl (lv_at hl 0 rfl) ?_
  have hPc : va_P D vwCl (wX0_demandBlock cI cB a_co a_ins a_mc a_me a_ps a_rg v_op v_i v_r v_s v_a v_b v_fault v_word v_rF) H := hP.sub [0, 1, 2, 4, 6] rfl
  have hDc : va_D A (wX0_demandBlock cI cB a_co a_ins a_mc a_me a_ps a_rg v_op v_i v_r v_s v_a v_b v_fault v_word v_rF) := hD.sub [0, 1, 2, 4, 6] (by decide) rfl
  have hFc := va_free (wc := (wX0_demandBlock cI cB a_co a_ins a_mc a_me a_ps a_rg v_op v_i v_r v_s v_a v_b v_fault v_word v_rF)) hD hS hA [0, 1, 2, 4, 6] rfl
  refine va_calli (va_runV (As := []) (rest := []) ⟨hx, hb, hml, hown, hts⟩ (kX0_demandBlock l D cI cB a_co a_ins a_mc a_me a_ps a_rg H.size v_op v_i v_r v_s v_a v_b v_fault v_word v_rF ) (cwV 0 hts (gd_V wd_69 wd_70 wd_71 wd_28 wd_65) rfl rfl rfl hdX0_demandBlock ⟨Nat.le_of_ble_eq_true rfl, Nat.le_of_ble_eq_true rfl⟩) (preV_std (ci := 0) (q0 := 0) hPc hK hDc hNW rfl rfl) rfl rfl hl.1 rfl (lv_room (Nat.le_of_ble_eq_true rfl)) dX0_insertKey_1 ⟨Nat.zero_le _, Nat.zero_le _⟩) hS (fun q _ h => hFc q h) hFc (fun r_1 u_1 t9 H1 locs ht9 hvm9 hw9 hB9 hz9 hk9 hS => ?_)
  obtain ⟨er_1, eu_1⟩ := hw9
  obtain ⟨hP, hD⟩ := back_std (w1 := (wX0_demandBlock cI cB a_co a_ins a_mc a_me a_ps a_rg v_op v_i v_r v_s v_a v_b u_1 v_word v_rF)) (w2 := (wX0_insertKey cI cB a_co a_ins a_mc a_me a_ps a_by a_ks a_rg v_op v_i v_r v_s v_a v_b u_1 v_word v_kF v_rF)) (wr := [(a_me, .inr (6, [.ref a_by, .ref a_ks])), (a_ks, .inl (cI, 4, .inl v_kF))]) hP hD [0, 1, 2, 4, 6] [3, 5] [2, 3, 4, 0, 5, 1, 6] rfl rfl (by decide) (by decide) hk9 hFc hB9 ht9 (by decide) rfl
  clear hB9 hk9 hz9 hvm9 ht9 hFc hPc hDc
  generalize H1 = H at hP hS ⊢
  refine lv_istore_n (lv' := [(1, .int r_1), (0, .ref a_co)]) hx hb dX0_insertKey_4 rfl hl (by decide) rfl (fun ls hl => ?_)
  refine lv_aload_n hx hb dX0_insertKey_5 rfl (lv_at hl 1 rfl) ?_
  refine va_get (D := D) (ci := 0) (v := .ref a_mc) (C := RX0) (T := TX0) (N := 2) hx hb hts in_X0 hown hK hP 0 rfl rfl 0 (by decide) q_0 (fun _ h9 => h9) rfl dX0_insertKey_6 ?_
  have hPc : va_P D vwCl (wX5_fine cI cB a_mc a_me a_ps a_rg u_1) H := hP.sub [2] rfl
  have hDc : va_D A (wX5_fine cI cB a_mc a_me a_ps a_rg u_1) := hD.sub [2] (by decide) rfl
  have hFc := va_free (wc := (wX5_fine cI cB a_mc a_me a_ps a_rg u_1)) hD hS hA [2] rfl
  refine va_calli (va_runV (As := []) (rest := []) ⟨hx, hb, hml, hown, hts⟩ (kX5_fine l D cI cB a_mc a_me a_ps a_rg H.size u_1 ) (cwV 0 hts (gd_V wd_72 wd_73 wd_74 wd_24 wd_66) rfl rfl rfl hdX5_fine ⟨Nat.le_of_ble_eq_true rfl, Nat.le_of_ble_eq_true rfl⟩) (preV_std (ci := 5) (q0 := 0) hPc hK hDc hNW rfl rfl) rfl rfl hl.1 rfl (lv_room (Nat.le_of_ble_eq_true rfl)) dX0_insertKey_9 ⟨Nat.zero_le _, Nat.zero_le _⟩) hS (fun q _ h => hFc q h) hFc (fun r_9 u_9 t9 H1 locs ht9 hvm9 hw9 hB9 hz9 hk9 hS => ?_)
  have er_9 : r_9 = fX5_fine u_1 := hw9
  have zr_9 : r_9 = 0 ∨ r_9 = 1 := by rw [er_9]; exact zX5_fine _
  obtain ⟨hP, hD⟩ := back_std (w1 := (wX5_fine cI cB a_mc a_me a_ps a_rg u_1)) (w2 := (wX0_insertKey cI cB a_co a_ins a_mc a_me a_ps a_by a_ks a_rg v_op v_i v_r v_s v_a v_b u_1 v_word v_kF v_rF)) (wr := [(a_co, .inr (0, [.ref a_mc, .ref a_ins])), (a_ins, .inr (4, [.ref a_mc, .ref a_me, .int v_op, .int v_i, .int v_r, .int v_s, .int v_a, .int v_b])), (a_me, .inr (6, [.ref a_by, .ref a_ks])), (a_ps, .inr (7, [.long v_word])), (a_ks, .inl (cI, 4, .inl v_kF)), (a_rg, .inl (cI, 16, .inl v_rF))]) hP hD [2] [0, 1, 3, 4, 5, 6] [0, 1, 6, 2, 3, 4, 5] rfl rfl (by decide) (by decide) hk9 hFc hB9 ht9 (by decide) rfl
  clear hB9 hk9 hz9 hvm9 ht9 hFc hPc hDc
  generalize H1 = H at hP hS ⊢
  refine lv_if_eq (tgt := 42) hx hb dX0_insertKey_12 (by decide) (fun c_12 => ?_) (fun c_12 => ?_)
  · skip
    have hf9 : (u_1, v_rF) = fX0_insertKey v_r v_s v_fault v_word v_kF v_rF := by simp only [fX0_insertKey, ← er_1, ← eu_1, ← er_9, if_pos c_12]
    exact W.vret hx hb hr (fun t9 ht9 hW9 => ⟨⟨(u_1, v_rF), rfl, hf9, ⟨by rw [ht9]; exact hP, va_K.moved hW9.alike hK, hD⟩⟩, hS.F ht9⟩) hS.2.2 dX0_insertKey_42
  · skip
    refine lv_aload_n hx hb dX0_insertKey_15 rfl (lv_at hl 1 rfl) ?_
    refine va_get (D := D) (ci := 0) (v := .ref a_mc) (C := RX0) (T := TX0) (N := 2) hx hb hts in_X0 hown hK hP 0 rfl rfl 0 (by decide) q_0 (fun _ h9 => h9) rfl dX0_insertKey_16 ?_
    refine lv_aload_n hx hb dX0_insertKey_19 rfl (lv_at hl 1 rfl) ?_
    refine va_get (D := D) (ci := 0) (v := .ref a_ins) (C := RX0) (T := TX0) (N := 2) hx hb hts in_X0 hown hK hP 0 rfl rfl 1 (by decide) q_1 (fun _ h9 => h9) rfl dX0_insertKey_20 ?_
    refine va_getN (D := D) (ci := 4) (v := .int v_r) (C := RX4) (T := TX4) (N := 8) hx hb hts in_X4 hown hK hP 1 rfl rfl 4 (by decide) n_0 (fun _ h9 => h9) rfl dX0_insertKey_23 ?_
    refine lv_aload_n hx hb dX0_insertKey_26 rfl (lv_at hl 1 rfl) ?_
    refine va_get (D := D) (ci := 0) (v := .ref a_mc) (C := RX0) (T := TX0) (N := 2) hx hb hts in_X0 hown hK hP 0 rfl rfl 0 (by decide) q_0 (fun _ h9 => h9) rfl dX0_insertKey_27 ?_
    refine va_getN (D := D) (ci := 5) (v := .ref a_me) (C := RX5) (T := TX5) (N := 4) hx hb hts in_X5 hown hK hP 2 rfl rfl 0 (by decide) n_1 (fun _ h9 => h9) rfl dX0_insertKey_30 ?_
    refine lv_iload_n hx hb dX0_insertKey_33 rfl (lv_at hl 0 rfl) ?_
    have hPc : va_P D vwCl (wX6_blockKey cI cB a_me a_by a_ks v_kF) H := hP.sub [3, 5] rfl
    have hDc : va_D A (wX6_blockKey cI cB a_me a_by a_ks v_kF) := hD.sub [3, 5] (by decide) rfl
    have hFc := va_free (wc := (wX6_blockKey cI cB a_me a_by a_ks v_kF)) hD hS hA [3, 5] rfl
    refine va_calli (va_runV (As := [.int r_1]) (rest := [.int v_r, .ref a_mc]) ⟨hx, hb, hml, hown, hts⟩ (kX6_blockKey l D cI cB a_me a_by a_ks H.size v_kF r_1) (cwV 1 hts (gd_V wd_84 wd_85 wd_86 wd_78 wd_80) rfl rfl rfl hdX6_blockKey ⟨Nat.le_of_ble_eq_true rfl, Nat.le_of_ble_eq_true rfl⟩) (preV_std (ci := 6) (q0 := 0) hPc hK hDc hNW rfl rfl) rfl rfl hl.1 rfl (lv_room (Nat.le_of_ble_eq_true rfl)) dX0_insertKey_34 ⟨Nat.zero_le _, Nat.zero_le _⟩) hS (fun q _ h => hFc q h) hFc (fun r_34 u_34 t9 H1 locs ht9 hvm9 hw9 hB9 hz9 hk9 hS => ?_)
    have er_34 : r_34 = fX6_blockKey r_1 v_kF := hw9
    obtain ⟨hP, hD⟩ := back_std (w1 := (wX6_blockKey cI cB a_me a_by a_ks v_kF)) (w2 := (wX0_insertKey cI cB a_co a_ins a_mc a_me a_ps a_by a_ks a_rg v_op v_i v_r v_s v_a v_b u_1 v_word v_kF v_rF)) (wr := [(a_co, .inr (0, [.ref a_mc, .ref a_ins])), (a_ins, .inr (4, [.ref a_mc, .ref a_me, .int v_op, .int v_i, .int v_r, .int v_s, .int v_a, .int v_b])), (a_mc, .inr (5, [.ref a_me, .ref a_ps, .ref a_rg, .int u_1])), (a_ps, .inr (7, [.long v_word])), (a_rg, .inl (cI, 16, .inl v_rF))]) hP hD [3, 5] [0, 1, 2, 4, 6] [0, 1, 2, 5, 3, 6, 4] rfl rfl (by decide) (by decide) hk9 hFc hB9 ht9 (by decide) rfl
    clear hB9 hk9 hz9 hvm9 ht9 hFc hPc hDc
    generalize H1 = H at hP hS ⊢
    refine lv_iconst (v := 3) hx hb dX0_insertKey_37 (by decide) ?_
    refine lv_ishl hx hb dX0_insertKey_38 ?_
    have hPc : va_P D vwCl (wX5_setLastByte cI cB a_mc a_me a_ps a_rg u_1 v_rF) H := hP.sub [2, 6] rfl
    have hDc : va_D A (wX5_setLastByte cI cB a_mc a_me a_ps a_rg u_1 v_rF) := hD.sub [2, 6] (by decide) rfl
    have hFc := va_free (wc := (wX5_setLastByte cI cB a_mc a_me a_ps a_rg u_1 v_rF)) hD hS hA [2, 6] rfl
    refine va_callv (va_runV (As := [.int v_r, .int ((r_34 <<< (3 &&& 31)))]) (rest := []) ⟨hx, hb, hml, hown, hts⟩ (kX5_setLastByte l D cI cB a_mc a_me a_ps a_rg H.size u_1 v_rF v_r (r_34 <<< (3 &&& 31))) (cwV 2 hts (gd_V wd_87 wd_88 wd_89 wd_24 wd_81) rfl rfl rfl hdX5_setLastByte ⟨Nat.le_of_ble_eq_true rfl, Nat.le_of_ble_eq_true rfl⟩) (preV_std (ci := 5) (q0 := 0) hPc hK hDc hNW rfl rfl) rfl rfl hl.1 rfl (lv_room (Nat.le_of_ble_eq_true rfl)) dX0_insertKey_39 ⟨Nat.zero_le _, Nat.zero_le _⟩) hS (fun q _ h => hFc q h) hFc (fun u_39 t9 H1 locs ht9 hvm9 hw9 hB9 hz9 hk9 hS => ?_)
    have eu_39 : u_39 = fX5_setLastByte v_r (r_34 <<< (3 &&& 31)) v_rF := hw9
    obtain ⟨hP, hD⟩ := back_std (w1 := (wX5_setLastByte cI cB a_mc a_me a_ps a_rg u_1 u_39)) (w2 := (wX0_insertKey cI cB a_co a_ins a_mc a_me a_ps a_by a_ks a_rg v_op v_i v_r v_s v_a v_b u_1 v_word v_kF u_39)) (wr := [(a_co, .inr (0, [.ref a_mc, .ref a_ins])), (a_ins, .inr (4, [.ref a_mc, .ref a_me, .int v_op, .int v_i, .int v_r, .int v_s, .int v_a, .int v_b])), (a_me, .inr (6, [.ref a_by, .ref a_ks])), (a_ps, .inr (7, [.long v_word])), (a_ks, .inl (cI, 4, .inl v_kF))]) hP hD [2, 6] [0, 1, 3, 4, 5] [0, 1, 5, 2, 3, 4, 6] rfl rfl (by decide) (by decide) hk9 hFc hB9 ht9 (by decide) rfl
    clear hB9 hk9 hz9 hvm9 ht9 hFc hPc hDc
    generalize H1 = H at hP hS ⊢
    have hf9 : (u_1, u_39) = fX0_insertKey v_r v_s v_fault v_word v_kF v_rF := by simp only [fX0_insertKey, ← er_1, ← eu_1, ← er_9, ← er_34, ← eu_39, if_neg c_12]
    exact W.vret hx hb hr (fun t9 ht9 hW9 => ⟨⟨(u_1, u_39), rfl, hf9, ⟨by rw [ht9]; exact hP, va_K.moved hW9.alike hK, hD⟩⟩, hS.F ht9⟩) hS.2.2 dX0_insertKey_42
theorem hdX0_insertKey : yX0_insertKey.cls = RX0 ∧ yX0_insertKey.cls ≠ "java/lang/invoke/MethodHandle" ∧ yX0_insertKey.cls ≠ "java/lang/invoke/VarHandle" ∧ (parseMethodDescriptor yX0_insertKey.desc).map (fun d => d.parameters.length) = some 0 := by decide +kernel
noncomputable def fX0_setSystemMask (v_a : Int32) (v_fault : Int32) (v_word : Int64) (v_bF : (Nat → Int32)) (v_kF : (Nat → Int32)) : (Int32 × Int64) :=
  let u_4 := fX5_demandSupervisor v_fault v_word
  let u_20 := fX5_demand v_a 1 0 u_4 v_word v_kF
  let r_27 := fX5_fine u_20
  if r_27 = 0 then ((u_20, v_word)) else (let r_54 := fX6_get v_a v_bF; let u_57 := fX7_setSystemMask r_54 v_word; (u_20, u_57))
abbrev wX0_setSystemMask (cI cB : ClassId) (a_co a_ins a_mc a_me a_ps a_by a_ks a_rg : Nat) (v_op : Int32) (v_i : Int32) (v_r : Int32) (v_s : Int32) (v_a : Int32) (v_b : Int32) (v_fault : Int32) (v_word : Int64) (v_bF : (Nat → Int32)) (v_kF : (Nat → Int32)) : va_W := [(a_co, .inr (0, [.ref a_mc, .ref a_ins])), (a_ins, .inr (4, [.ref a_mc, .ref a_me, .int v_op, .int v_i, .int v_r, .int v_s, .int v_a, .int v_b])), (a_mc, .inr (5, [.ref a_me, .ref a_ps, .ref a_rg, .int v_fault])), (a_me, .inr (6, [.ref a_by, .ref a_ks])), (a_ps, .inr (7, [.long v_word])), (a_by, .inl (cB, 8192, .inl v_bF)), (a_ks, .inl (cI, 4, .inl v_kF))]
abbrev rmX0_setSystemMask : Room := { frames := 2, cells := 0, slots := 0, locals := 49 }
abbrev qX0_setSystemMask (D : va_G) (cI cB : ClassId) (a_co a_ins a_mc a_me a_ps a_by a_ks a_rg : Nat) (v_op : Int32) (v_i : Int32) (v_r : Int32) (v_s : Int32) (v_a : Int32) (v_b : Int32) (v_fault : Int32) (v_word : Int64) (v_bF : (Nat → Int32)) (v_kF : (Nat → Int32)) : (Nat → Prop) → Array Value → State → Outcome → State → Prop := fun A9 => va_Qv (fun (u9 : (Int32 × Int64)) => u9 = fX0_setSystemMask v_a v_fault v_word v_bF v_kF) (fun u9 t9 => atW D (TYS cI cB) A9 (wX0_setSystemMask cI cB a_co a_ins a_mc a_me a_ps a_by a_ks a_rg v_op v_i v_r v_s v_a v_b u9.1 u9.2 v_bF v_kF) t9) A9
set_option maxHeartbeats 4000000 in
set_option maxRecDepth 100000 in
theorem kX0_setSystemMask (l : Launch) (D : va_G) (cI cB : ClassId) (a_co a_ins a_mc a_me a_ps a_by a_ks a_rg : Nat) (sz : Nat) (v_op : Int32) (v_i : Int32) (v_r : Int32) (v_s : Int32) (v_a : Int32) (v_b : Int32) (v_fault : Int32) (v_word : Int64) (v_bF : (Nat → Int32)) (v_kF : (Nat → Int32)) : MetW l yX0_setSystemMask (WK yX0_setSystemMask cX0_setSystemMask 1 none) rmX0_setSystemMask D (TYS cI cB) (wX0_setSystemMask cI cB a_co a_ins a_mc a_me a_ps a_by a_ks a_rg v_op v_i v_r v_s v_a v_b v_fault v_word v_bF v_kF) sz [.ref a_co] (qX0_setSystemMask D cI cB a_co a_ins a_mc a_me a_ps a_by a_ks a_rg v_op v_i v_r v_s v_a v_b v_fault v_word v_bF v_kF) 0 0 := by
  refine met_std (by decide) rfl (Nat.le_of_ble_eq_true rfl) ?_
  intro p e s m below meth c A ls H hx hb hr hml hown hts hlocks hA hP hK hD hS hNW hl
  have hl : lv_has ls 1 [(0, .ref a_co)] := hl
  have q_0 := hts _ (List.mem_cons_of_mem _ wd_4)
  have q_1 := hts _ (List.mem_cons_of_mem _ wd_5)
  have n_0 := hNW.f (A := ([.ref a_co] : List Value).toArray) ("MainframeCore$Control", 56, "MainframeCore$Instruction", "a", "I", "MainframeCore") (by decide +kernel)
  have n_1 := hNW.f (A := ([.ref a_co] : List Value).toArray) ("MainframeCore$Control", 25, "MainframeCore$Machine", "psw", "LMainframeCore$Psw;", "MainframeCore") (by decide +kernel)
  have n_2 := hNW.f (A := ([.ref a_co] : List Value).toArray) ("MainframeCore$Control", 73, "MainframeCore$Machine", "memory", "LMainframeCore$Memory;", "MainframeCore") (by decide +kernel)
  refine lv_aload_n hx hb dX0_setSystemMask_0 rfl (lv_at hl 0 rfl) ?_
  refine va_get (D := D) (ci := 0) (v := .ref a_mc) (C := RX0) (T := TX0) (N := 2) hx hb hts in_X0 hown hK hP 0 rfl rfl 0 (by decide) q_0 (fun _ h9 => h9) rfl dX0_setSystemMask_1 ?_
  have hPc : va_P D vwCl (wX5_demandSupervisor cI cB a_mc a_me a_ps a_rg v_fault v_word) H := hP.sub [2, 4] rfl
  have hDc : va_D A (wX5_demandSupervisor cI cB a_mc a_me a_ps a_rg v_fault v_word) := hD.sub [2, 4] (by decide) rfl
  have hFc := va_free (wc := (wX5_demandSupervisor cI cB a_mc a_me a_ps a_rg v_fault v_word)) hD hS hA [2, 4] rfl
  refine va_callv (va_runV (As := []) (rest := []) ⟨hx, hb, hml, hown, hts⟩ (kX5_demandSupervisor l D cI cB a_mc a_me a_ps a_rg H.size v_fault v_word ) (cwV 0 hts (gd_V wd_58 wd_59 wd_60 wd_24 wd_48) rfl rfl rfl hdX5_demandSupervisor ⟨Nat.le_of_ble_eq_true rfl, Nat.le_of_ble_eq_true rfl⟩) (preV_std (ci := 5) (q0 := 0) hPc hK hDc hNW rfl rfl) rfl rfl hl.1 rfl (lv_room (Nat.le_of_ble_eq_true rfl)) dX0_setSystemMask_4 ⟨Nat.zero_le _, Nat.zero_le _⟩) hS (fun q _ h => hFc q h) hFc (fun u_4 t9 H1 locs ht9 hvm9 hw9 hB9 hz9 hk9 hS => ?_)
  have eu_4 : u_4 = fX5_demandSupervisor v_fault v_word := hw9
  obtain ⟨hP, hD⟩ := back_std (w1 := (wX5_demandSupervisor cI cB a_mc a_me a_ps a_rg u_4 v_word)) (w2 := (wX0_setSystemMask cI cB a_co a_ins a_mc a_me a_ps a_by a_ks a_rg v_op v_i v_r v_s v_a v_b u_4 v_word v_bF v_kF)) (wr := [(a_co, .inr (0, [.ref a_mc, .ref a_ins])), (a_ins, .inr (4, [.ref a_mc, .ref a_me, .int v_op, .int v_i, .int v_r, .int v_s, .int v_a, .int v_b])), (a_me, .inr (6, [.ref a_by, .ref a_ks])), (a_by, .inl (cB, 8192, .inl v_bF)), (a_ks, .inl (cI, 4, .inl v_kF))]) hP hD [2, 4] [0, 1, 3, 5, 6] [0, 1, 5, 2, 6, 3, 4] rfl rfl (by decide) (by decide) hk9 hFc hB9 ht9 (by decide) rfl
  clear hB9 hk9 hz9 hvm9 ht9 hFc hPc hDc
  generalize H1 = H at hP hS ⊢
  refine lv_aload_n hx hb dX0_setSystemMask_7 rfl (lv_at hl 0 rfl) ?_
  refine va_get (D := D) (ci := 0) (v := .ref a_mc) (C := RX0) (T := TX0) (N := 2) hx hb hts in_X0 hown hK hP 0 rfl rfl 0 (by decide) q_0 (fun _ h9 => h9) rfl dX0_setSystemMask_8 ?_
  refine lv_aload_n hx hb dX0_setSystemMask_11 rfl (lv_at hl 0 rfl) ?_
  refine va_get (D := D) (ci := 0) (v := .ref a_ins) (C := RX0) (T := TX0) (N := 2) hx hb hts in_X0 hown hK hP 0 rfl rfl 1 (by decide) q_1 (fun _ h9 => h9) rfl dX0_setSystemMask_12 ?_
  refine va_getN (D := D) (ci := 4) (v := .int v_a) (C := RX4) (T := TX4) (N := 8) hx hb hts in_X4 hown hK hP 1 rfl rfl 6 (by decide) n_0 (fun _ h9 => h9) rfl dX0_setSystemMask_15 ?_
  refine lv_iconst (v := 1) hx hb dX0_setSystemMask_18 (by decide) ?_
  refine lv_iconst (v := 0) hx hb dX0_setSystemMask_19 (by decide) ?_
  have hPc : va_P D vwCl (wX5_demand cI cB a_mc a_me a_ps a_by a_ks a_rg u_4 v_word v_kF) H := hP.sub [2, 3, 4, 6] rfl
  have hDc : va_D A (wX5_demand cI cB a_mc a_me a_ps a_by a_ks a_rg u_4 v_word v_kF) := hD.sub [2, 3, 4, 6] (by decide) rfl
  have hFc := va_free (wc := (wX5_demand cI cB a_mc a_me a_ps a_by a_ks a_rg u_4 v_word v_kF)) hD hS hA [2, 3, 4, 6] rfl
  refine va_callv (va_runV (As := [.int v_a, .int 1, .int 0]) (rest := []) ⟨hx, hb, hml, hown, hts⟩ (kX5_demand l D cI cB a_mc a_me a_ps a_by a_ks a_rg H.size u_4 v_word v_kF v_a 1 0) (cwV 3 hts (gd_V wd_105 wd_106 wd_107 wd_24 wd_93) rfl rfl rfl hdX5_demand ⟨Nat.le_of_ble_eq_true rfl, Nat.le_of_ble_eq_true rfl⟩) (preV_std (ci := 5) (q0 := 0) hPc hK hDc hNW rfl rfl) rfl rfl hl.1 rfl (lv_room (Nat.le_of_ble_eq_true rfl)) dX0_setSystemMask_20 ⟨Nat.zero_le _, Nat.zero_le _⟩) hS (fun q _ h => hFc q h) hFc (fun u_20 t9 H1 locs ht9 hvm9 hw9 hB9 hz9 hk9 hS => ?_)
  have eu_20 : u_20 = fX5_demand v_a 1 0 u_4 v_word v_kF := hw9
  obtain ⟨hP, hD⟩ := back_std (w1 := (wX5_demand cI cB a_mc a_me a_ps a_by a_ks a_rg u_20 v_word v_kF)) (w2 := (wX0_setSystemMask cI cB a_co a_ins a_mc a_me a_ps a_by a_ks a_rg v_op v_i v_r v_s v_a v_b u_20 v_word v_bF v_kF)) (wr := [(a_co, .inr (0, [.ref a_mc, .ref a_ins])), (a_ins, .inr (4, [.ref a_mc, .ref a_me, .int v_op, .int v_i, .int v_r, .int v_s, .int v_a, .int v_b])), (a_by, .inl (cB, 8192, .inl v_bF))]) hP hD [2, 3, 4, 6] [0, 1, 5] [0, 1, 3, 4, 5, 2, 6] rfl rfl (by decide) (by decide) hk9 hFc hB9 ht9 (by decide) rfl
  clear hB9 hk9 hz9 hvm9 ht9 hFc hPc hDc
  generalize H1 = H at hP hS ⊢
  refine lv_aload_n hx hb dX0_setSystemMask_23 rfl (lv_at hl 0 rfl) ?_
  refine va_get (D := D) (ci := 0) (v := .ref a_mc) (C := RX0) (T := TX0) (N := 2) hx hb hts in_X0 hown hK hP 0 rfl rfl 0 (by decide) q_0 (fun _ h9 => h9) rfl dX0_setSystemMask_24 ?_
  have hPc : va_P D vwCl (wX5_fine cI cB a_mc a_me a_ps a_rg u_20) H := hP.sub [2] rfl
  have hDc : va_D A (wX5_fine cI cB a_mc a_me a_ps a_rg u_20) := hD.sub [2] (by decide) rfl
  have hFc := va_free (wc := (wX5_fine cI cB a_mc a_me a_ps a_rg u_20)) hD hS hA [2] rfl
  refine va_calli (va_runV (As := []) (rest := []) ⟨hx, hb, hml, hown, hts⟩ (kX5_fine l D cI cB a_mc a_me a_ps a_rg H.size u_20 ) (cwV 0 hts (gd_V wd_72 wd_73 wd_74 wd_24 wd_66) rfl rfl rfl hdX5_fine ⟨Nat.le_of_ble_eq_true rfl, Nat.le_of_ble_eq_true rfl⟩) (preV_std (ci := 5) (q0 := 0) hPc hK hDc hNW rfl rfl) rfl rfl hl.1 rfl (lv_room (Nat.le_of_ble_eq_true rfl)) dX0_setSystemMask_27 ⟨Nat.zero_le _, Nat.zero_le _⟩) hS (fun q _ h => hFc q h) hFc (fun r_27 u_27 t9 H1 locs ht9 hvm9 hw9 hB9 hz9 hk9 hS => ?_)
  have er_27 : r_27 = fX5_fine u_20 := hw9
  have zr_27 : r_27 = 0 ∨ r_27 = 1 := by rw [er_27]; exact zX5_fine _
  obtain ⟨hP, hD⟩ := back_std (w1 := (wX5_fine cI cB a_mc a_me a_ps a_rg u_20)) (w2 := (wX0_setSystemMask cI cB a_co a_ins a_mc a_me a_ps a_by a_ks a_rg v_op v_i v_r v_s v_a v_b u_20 v_word v_bF v_kF)) (wr := [(a_co, .inr (0, [.ref a_mc, .ref a_ins])), (a_ins, .inr (4, [.ref a_mc, .ref a_me, .int v_op, .int v_i, .int v_r, .int v_s, .int v_a, .int v_b])), (a_me, .inr (6, [.ref a_by, .ref a_ks])), (a_ps, .inr (7, [.long v_word])), (a_by, .inl (cB, 8192, .inl v_bF)), (a_ks, .inl (cI, 4, .inl v_kF))]) hP hD [2] [0, 1, 3, 4, 5, 6] [0, 1, 6, 2, 3, 4, 5] rfl rfl (by decide) (by decide) hk9 hFc hB9 ht9 (by decide) rfl
  clear hB9 hk9 hz9 hvm9 ht9 hFc hPc hDc
  generalize H1 = H at hP hS ⊢
  refine lv_if_eq (tgt := 60) hx hb dX0_setSystemMask_30 (by decide) (fun c_30 => ?_) (fun c_30 => ?_)
  · skip
    have hf9 : (u_20, v_word) = fX0_setSystemMask v_a v_fault v_word v_bF v_kF := by simp only [fX0_setSystemMask, ← eu_4, ← eu_20, ← er_27, if_pos c_30]
    exact W.vret hx hb hr (fun t9 ht9 hW9 => ⟨⟨(u_20, v_word), rfl, hf9, ⟨by rw [ht9]; exact hP, va_K.moved hW9.alike hK, hD⟩⟩, hS.F ht9⟩) hS.2.2 dX0_setSystemMask_60
  · skip
    refine lv_aload_n hx hb dX0_setSystemMask_33 rfl (lv_at hl 0 rfl) ?_
    refine va_get (D := D) (ci := 0) (v := .ref a_mc) (C := RX0) (T := TX0) (N := 2) hx hb hts in_X0 hown hK hP 0 rfl rfl 0 (by decide) q_0 (fun _ h9 => h9) rfl dX0_setSystemMask_34 ?_
    refine va_getN (D := D) (ci := 5) (v := .ref a_ps) (C := RX5) (T := TX5) (N := 4) hx hb hts in_X5 hown hK hP 2 rfl rfl 1 (by decide) n_1 (fun _ h9 => h9) rfl dX0_setSystemMask_37 ?_
    refine lv_aload_n hx hb dX0_setSystemMask_40 rfl (lv_at hl 0 rfl) ?_
    refine va_get (D := D) (ci := 0) (v := .ref a_mc) (C := RX0) (T := TX0) (N := 2) hx hb hts in_X0 hown hK hP 0 rfl rfl 0 (by decide) q_0 (fun _ h9 => h9) rfl dX0_setSystemMask_41 ?_
    refine va_getN (D := D) (ci := 5) (v := .ref a_me) (C := RX5) (T := TX5) (N := 4) hx hb hts in_X5 hown hK hP 2 rfl rfl 0 (by decide) n_2 (fun _ h9 => h9) rfl dX0_setSystemMask_44 ?_
    refine lv_aload_n hx hb dX0_setSystemMask_47 rfl (lv_at hl 0 rfl) ?_
    refine va_get (D := D) (ci := 0) (v := .ref a_ins) (C := RX0) (T := TX0) (N := 2) hx hb hts in_X0 hown hK hP 0 rfl rfl 1 (by decide) q_1 (fun _ h9 => h9) rfl dX0_setSystemMask_48 ?_
    refine va_getN (D := D) (ci := 4) (v := .int v_a) (C := RX4) (T := TX4) (N := 8) hx hb hts in_X4 hown hK hP 1 rfl rfl 6 (by decide) n_0 (fun _ h9 => h9) rfl dX0_setSystemMask_51 ?_
    have hPc : va_P D vwCl (wX6_get cI cB a_me a_by a_ks v_bF) H := hP.sub [3, 5] rfl
    have hDc : va_D A (wX6_get cI cB a_me a_by a_ks v_bF) := hD.sub [3, 5] (by decide) rfl
    have hFc := va_free (wc := (wX6_get cI cB a_me a_by a_ks v_bF)) hD hS hA [3, 5] rfl
    refine va_calli (va_runV (As := [.int v_a]) (rest := [.ref a_ps]) ⟨hx, hb, hml, hown, hts⟩ (kX6_get l D cI cB a_me a_by a_ks H.size v_bF v_a) (cwV 1 hts (gd_V wd_108 wd_109 wd_110 wd_78 wd_102) rfl rfl rfl hdX6_get ⟨Nat.le_of_ble_eq_true rfl, Nat.le_of_ble_eq_true rfl⟩) (preV_std (ci := 6) (q0 := 0) hPc hK hDc hNW rfl rfl) rfl rfl hl.1 rfl (lv_room (Nat.le_of_ble_eq_true rfl)) dX0_setSystemMask_54 ⟨Nat.zero_le _, Nat.zero_le _⟩) hS (fun q _ h => hFc q h) hFc (fun r_54 u_54 t9 H1 locs ht9 hvm9 hw9 hB9 hz9 hk9 hS => ?_)
    have er_54 : r_54 = fX6_get v_a v_bF := hw9
    obtain ⟨hP, hD⟩ := back_std (w1 := (wX6_get cI cB a_me a_by a_ks v_bF)) (w2 := (wX0_setSystemMask cI cB a_co a_ins a_mc a_me a_ps a_by a_ks a_rg v_op v_i v_r v_s v_a v_b u_20 v_word v_bF v_kF)) (wr := [(a_co, .inr (0, [.ref a_mc, .ref a_ins])), (a_ins, .inr (4, [.ref a_mc, .ref a_me, .int v_op, .int v_i, .int v_r, .int v_s, .int v_a, .int v_b])), (a_mc, .inr (5, [.ref a_me, .ref a_ps, .ref a_rg, .int u_20])), (a_ps, .inr (7, [.long v_word])), (a_ks, .inl (cI, 4, .inl v_kF))]) hP hD [3, 5] [0, 1, 2, 4, 6] [0, 1, 2, 5, 3, 6, 4] rfl rfl (by decide) (by decide) hk9 hFc hB9 ht9 (by decide) rfl
    clear hB9 hk9 hz9 hvm9 ht9 hFc hPc hDc
    generalize H1 = H at hP hS ⊢
    have hPc : va_P D vwCl (wX7_setSystemMask cI cB a_ps v_word) H := hP.sub [4] rfl
    have hDc : va_D A (wX7_setSystemMask cI cB a_ps v_word) := hD.sub [4] (by decide) rfl
    have hFc := va_free (wc := (wX7_setSystemMask cI cB a_ps v_word)) hD hS hA [4] rfl
    refine va_callv (va_runV (As := [.int r_54]) (rest := []) ⟨hx, hb, hml, hown, hts⟩ (kX7_setSystemMask l D cI cB a_ps H.size v_word r_54) (cwV 1 hts (gd_V wd_111 wd_112 wd_113 wd_15 wd_104) rfl rfl rfl hdX7_setSystemMask ⟨Nat.le_of_ble_eq_true rfl, Nat.le_of_ble_eq_true rfl⟩) (preV_std (ci := 7) (q0 := 0) hPc hK hDc hNW rfl rfl) rfl rfl hl.1 rfl (lv_room (Nat.le_of_ble_eq_true rfl)) dX0_setSystemMask_57 ⟨Nat.zero_le _, Nat.zero_le _⟩) hS (fun q _ h => hFc q h) hFc (fun u_57 t9 H1 locs ht9 hvm9 hw9 hB9 hz9 hk9 hS => ?_)
    have eu_57 : u_57 = fX7_setSystemMask r_54 v_word := hw9
    obtain ⟨hP, hD⟩ := back_std (w1 := (wX7_setSystemMask cI cB a_ps u_57)) (w2 := (wX0_setSystemMask cI cB a_co a_ins a_mc a_me a_ps a_by a_ks a_rg v_op v_i v_r v_s v_a v_b u_20 u_57 v_bF v_kF)) (wr := [(a_co, .inr (0, [.ref a_mc, .ref a_ins])), (a_ins, .inr (4, [.ref a_mc, .ref a_me, .int v_op, .int v_i, .int v_r, .int v_s, .int v_a, .int v_b])), (a_mc, .inr (5, [.ref a_me, .ref a_ps, .ref a_rg, .int u_20])), (a_me, .inr (6, [.ref a_by, .ref a_ks])), (a_by, .inl (cB, 8192, .inl v_bF)), (a_ks, .inl (cI, 4, .inl v_kF))]) hP hD [4] [0, 1, 2, 3, 5, 6] [0, 1, 2, 3, 6, 4, 5] rfl rfl (by decide) (by decide) hk9 hFc hB9 ht9 (by decide) rfl
    clear hB9 hk9 hz9 hvm9 ht9 hFc hPc hDc
    generalize H1 = H at hP hS ⊢
    have hf9 : (u_20, u_57) = fX0_setSystemMask v_a v_fault v_word v_bF v_kF := by simp only [fX0_setSystemMask, ← eu_4, ← eu_20, ← er_27, ← er_54, ← eu_57, if_neg c_30]
    exact W.vret hx hb hr (fun t9 ht9 hW9 => ⟨⟨(u_20, u_57), rfl, hf9, ⟨by rw [ht9]; exact hP, va_K.moved hW9.alike hK, hD⟩⟩, hS.F ht9⟩) hS.2.2 dX0_setSystemMask_60
theorem hdX0_setSystemMask : yX0_setSystemMask.cls = RX0 ∧ yX0_setSystemMask.cls ≠ "java/lang/invoke/MethodHandle" ∧ yX0_setSystemMask.cls ≠ "java/lang/invoke/VarHandle" ∧ (parseMethodDescriptor yX0_setSystemMask.desc).map (fun d => d.parameters.length) = some 0 := by decide +kernel
noncomputable def fX0_loadStatus (v_a : Int32) (v_fault : Int32) (v_word : Int64) (v_bF : (Nat → Int32)) (v_kF : (Nat → Int32)) : (Int32 × Int64) :=
  let u_4 := fX5_demandSupervisor v_fault v_word
  let u_21 := fX5_demand v_a 8 0 u_4 v_word v_kF
  let u_37 := fX5_demandAligned v_a 8 u_21
  let r_44 := fX5_fine u_37
  if r_44 = 0 then ((u_37, v_word)) else (let r_73 := fX6_number v_a 8 v_bF; let u_76 := fX7_become r_73 v_word; (u_37, u_76))
abbrev wX0_loadStatus (cI cB : ClassId) (a_co a_ins a_mc a_me a_ps a_by a_ks a_rg : Nat) (v_op : Int32) (v_i : Int32) (v_r : Int32) (v_s : Int32) (v_a : Int32) (v_b : Int32) (v_fault : Int32) (v_word : Int64) (v_bF : (Nat → Int32)) (v_kF : (Nat → Int32)) : va_W := [(a_co, .inr (0, [.ref a_mc, .ref a_ins])), (a_ins, .inr (4, [.ref a_mc, .ref a_me, .int v_op, .int v_i, .int v_r, .int v_s, .int v_a, .int v_b])), (a_mc, .inr (5, [.ref a_me, .ref a_ps, .ref a_rg, .int v_fault])), (a_me, .inr (6, [.ref a_by, .ref a_ks])), (a_ps, .inr (7, [.long v_word])), (a_by, .inl (cB, 8192, .inl v_bF)), (a_ks, .inl (cI, 4, .inl v_kF))]
abbrev rmX0_loadStatus : Room := { frames := 2, cells := 0, slots := 0, locals := 49 }
abbrev qX0_loadStatus (D : va_G) (cI cB : ClassId) (a_co a_ins a_mc a_me a_ps a_by a_ks a_rg : Nat) (v_op : Int32) (v_i : Int32) (v_r : Int32) (v_s : Int32) (v_a : Int32) (v_b : Int32) (v_fault : Int32) (v_word : Int64) (v_bF : (Nat → Int32)) (v_kF : (Nat → Int32)) : (Nat → Prop) → Array Value → State → Outcome → State → Prop := fun A9 => va_Qv (fun (u9 : (Int32 × Int64)) => u9 = fX0_loadStatus v_a v_fault v_word v_bF v_kF) (fun u9 t9 => atW D (TYS cI cB) A9 (wX0_loadStatus cI cB a_co a_ins a_mc a_me a_ps a_by a_ks a_rg v_op v_i v_r v_s v_a v_b u9.1 u9.2 v_bF v_kF) t9) A9
set_option maxHeartbeats 4000000 in
set_option maxRecDepth 100000 in
theorem kX0_loadStatus (l : Launch) (D : va_G) (cI cB : ClassId) (a_co a_ins a_mc a_me a_ps a_by a_ks a_rg : Nat) (sz : Nat) (v_op : Int32) (v_i : Int32) (v_r : Int32) (v_s : Int32) (v_a : Int32) (v_b : Int32) (v_fault : Int32) (v_word : Int64) (v_bF : (Nat → Int32)) (v_kF : (Nat → Int32)) : MetW l yX0_loadStatus (WK yX0_loadStatus cX0_loadStatus 1 none) rmX0_loadStatus D (TYS cI cB) (wX0_loadStatus cI cB a_co a_ins a_mc a_me a_ps a_by a_ks a_rg v_op v_i v_r v_s v_a v_b v_fault v_word v_bF v_kF) sz [.ref a_co] (qX0_loadStatus D cI cB a_co a_ins a_mc a_me a_ps a_by a_ks a_rg v_op v_i v_r v_s v_a v_b v_fault v_word v_bF v_kF) 0 0 := by
  refine met_std (by decide) rfl (Nat.le_of_ble_eq_true rfl) ?_
  intro p e s m below meth c A ls H hx hb hr hml hown hts hlocks hA hP hK hD hS hNW hl
  have hl : lv_has ls 1 [(0, .ref a_co)] := hl
  have q_0 := hts _ (List.mem_cons_of_mem _ wd_4)
  have q_1 := hts _ (List.mem_cons_of_mem _ wd_5)
  have n_0 := hNW.f (A := ([.ref a_co] : List Value).toArray) ("MainframeCore$Control", 56, "MainframeCore$Instruction", "a", "I", "MainframeCore") (by decide +kernel)
  have n_1 := hNW.f (A := ([.ref a_co] : List Value).toArray) ("MainframeCore$Control", 25, "MainframeCore$Machine", "psw", "LMainframeCore$Psw;", "MainframeCore") (by decide +kernel)
  have n_2 := hNW.f (A := ([.ref a_co] : List Value).toArray) ("MainframeCore$Control", 73, "MainframeCore$Machine", "memory", "LMainframeCore$Memory;", "MainframeCore") (by decide +kernel)
  refine lv_aload_n hx hb dX0_loadStatus_0 rfl (lv_at hl 0 rfl) ?_
  refine va_get (D := D) (ci := 0) (v := .ref a_mc) (C := RX0) (T := TX0) (N := 2) hx hb hts in_X0 hown hK hP 0 rfl rfl 0 (by decide) q_0 (fun _ h9 => h9) rfl dX0_loadStatus_1 ?_
  have hPc : va_P D vwCl (wX5_demandSupervisor cI cB a_mc a_me a_ps a_rg v_fault v_word) H := hP.sub [2, 4] rfl
  have hDc : va_D A (wX5_demandSupervisor cI cB a_mc a_me a_ps a_rg v_fault v_word) := hD.sub [2, 4] (by decide) rfl
  have hFc := va_free (wc := (wX5_demandSupervisor cI cB a_mc a_me a_ps a_rg v_fault v_word)) hD hS hA [2, 4] rfl
  refine va_callv (va_runV (As := []) (rest := []) ⟨hx, hb, hml, hown, hts⟩ (kX5_demandSupervisor l D cI cB a_mc a_me a_ps a_rg H.size v_fault v_word ) (cwV 0 hts (gd_V wd_58 wd_59 wd_60 wd_24 wd_48) rfl rfl rfl hdX5_demandSupervisor ⟨Nat.le_of_ble_eq_true rfl, Nat.le_of_ble_eq_true rfl⟩) (preV_std (ci := 5) (q0 := 0) hPc hK hDc hNW rfl rfl) rfl rfl hl.1 rfl (lv_room (Nat.le_of_ble_eq_true rfl)) dX0_loadStatus_4 ⟨Nat.zero_le _, Nat.zero_le _⟩) hS (fun q _ h => hFc q h) hFc (fun u_4 t9 H1 locs ht9 hvm9 hw9 hB9 hz9 hk9 hS => ?_)
  have eu_4 : u_4 = fX5_demandSupervisor v_fault v_word := hw9
  obtain ⟨hP, hD⟩ := back_std (w1 := (wX5_demandSupervisor cI cB a_mc a_me a_ps a_rg u_4 v_word)) (w2 := (wX0_loadStatus cI cB a_co a_ins a_mc a_me a_ps a_by a_ks a_rg v_op v_i v_r v_s v_a v_b u_4 v_word v_bF v_kF)) (wr := [(a_co, .inr (0, [.ref a_mc, .ref a_ins])), (a_ins, .inr (4, [.ref a_mc, .ref a_me, .int v_op, .int v_i, .int v_r, .int v_s, .int v_a, .int v_b])), (a_me, .inr (6, [.ref a_by, .ref a_ks])), (a_by, .inl (cB, 8192, .inl v_bF)), (a_ks, .inl (cI, 4, .inl v_kF))]) hP hD [2, 4] [0, 1, 3, 5, 6] [0, 1, 5, 2, 6, 3, 4] rfl rfl (by decide) (by decide) hk9 hFc hB9 ht9 (by decide) rfl
  clear hB9 hk9 hz9 hvm9 ht9 hFc hPc hDc
  generalize H1 = H at hP hS ⊢
  refine lv_aload_n hx hb dX0_loadStatus_7 rfl (lv_at hl 0 rfl) ?_
  refine va_get (D := D) (ci := 0) (v := .ref a_mc) (C := RX0) (T := TX0) (N := 2) hx hb hts in_X0 hown hK hP 0 rfl rfl 0 (by decide) q_0 (fun _ h9 => h9) rfl dX0_loadStatus_8 ?_
  refine lv_aload_n hx hb dX0_loadStatus_11 rfl (lv_at hl 0 rfl) ?_
  refine va_get (D := D) (ci := 0) (v := .ref a_ins) (C := RX0) (T := TX0) (N := 2) hx hb hts in_X0 hown hK hP 0 rfl rfl 1 (by decide) q_1 (fun _ h9 => h9) rfl dX0_loadStatus_12 ?_
  refine va_getN (D := D) (ci := 4) (v := .int v_a) (C := RX4) (T := TX4) (N := 8) hx hb hts in_X4 hown hK hP 1 rfl rfl 6 (by decide) n_0 (fun _ h9 => h9) rfl dX0_loadStatus_15 ?_
  refine lv_bipush (v := 8) hx hb dX0_loadStatus_18 (by decide) ?_
  refine lv_iconst (v := 0) hx hb dX0_loadStatus_20 (by decide) ?_
  have hPc : va_P D vwCl (wX5_demand cI cB a_mc a_me a_ps a_by a_ks a_rg u_4 v_word v_kF) H := hP.sub [2, 3, 4, 6] rfl
  have hDc : va_D A (wX5_demand cI cB a_mc a_me a_ps a_by a_ks a_rg u_4 v_word v_kF) := hD.sub [2, 3, 4, 6] (by decide) rfl
  have hFc := va_free (wc := (wX5_demand cI cB a_mc a_me a_ps a_by a_ks a_rg u_4 v_word v_kF)) hD hS hA [2, 3, 4, 6] rfl
  refine va_callv (va_runV (As := [.int v_a, .int 8, .int 0]) (rest := []) ⟨hx, hb, hml, hown, hts⟩ (kX5_demand l D cI cB a_mc a_me a_ps a_by a_ks a_rg H.size u_4 v_word v_kF v_a 8 0) (cwV 3 hts (gd_V wd_105 wd_106 wd_107 wd_24 wd_93) rfl rfl rfl hdX5_demand ⟨Nat.le_of_ble_eq_true rfl, Nat.le_of_ble_eq_true rfl⟩) (preV_std (ci := 5) (q0 := 0) hPc hK hDc hNW rfl rfl) rfl rfl hl.1 rfl (lv_room (Nat.le_of_ble_eq_true rfl)) dX0_loadStatus_21 ⟨Nat.zero_le _, Nat.zero_le _⟩) hS (fun q _ h => hFc q h) hFc (fun u_21 t9 H1 locs ht9 hvm9 hw9 hB9 hz9 hk9 hS => ?_)
  have eu_21 : u_21 = fX5_demand v_a 8 0 u_4 v_word v_kF := hw9
  obtain ⟨hP, hD⟩ := back_std (w1 := (wX5_demand cI cB a_mc a_me a_ps a_by a_ks a_rg u_21 v_word v_kF)) (w2 := (wX0_loadStatus cI cB a_co a_ins a_mc a_me a_ps a_by a_ks a_rg v_op v_i v_r v_s v_a v_b u_21 v_word v_bF v_kF)) (wr := [(a_co, .inr (0, [.ref a_mc, .ref a_ins])), (a_ins, .inr (4, [.ref a_mc, .ref a_me, .int v_op, .int v_i, .int v_r, .int v_s, .int v_a, .int v_b])), (a_by, .inl (cB, 8192, .inl v_bF))]) hP hD [2, 3, 4, 6] [0, 1, 5] [0, 1, 3, 4, 5, 2, 6] rfl rfl (by decide) (by decide) hk9 hFc hB9 ht9 (by decide) rfl
  clear hB9 hk9 hz9 hvm9 ht9 hFc hPc hDc
  generalize H1 = H at hP hS ⊢
  refine lv_aload_n hx hb dX0_loadStatus_24 rfl (lv_at hl 0 rfl) ?_
  refine va_get (D := D) (ci := 0) (v := .ref a_mc) (C := RX0) (T := TX0) (N := 2) hx hb hts in_X0 hown hK hP 0 rfl rfl 0 (by decide) q_0 (fun _ h9 => h9) rfl dX0_loadStatus_25 ?_
  refine lv_aload_n hx hb dX0_loadStatus_28 rfl (lv_at hl 0 rfl) ?_
  refine va_get (D := D) (ci := 0) (v := .ref a_ins) (C := RX0) (T := TX0) (N := 2) hx hb hts in_X0 hown hK hP 0 rfl rfl 1 (by decide) q_1 (fun _ h9 => h9) rfl dX0_loadStatus_29 ?_
  refine va_getN (D := D) (ci := 4) (v := .int v_a) (C := RX4) (T := TX4) (N := 8) hx hb hts in_X4 hown hK hP 1 rfl rfl 6 (by decide) n_0 (fun _ h9 => h9) rfl dX0_loadStatus_32 ?_
  refine lv_bipush (v := 8) hx hb dX0_loadStatus_35 (by decide) ?_
  have hPc : va_P D vwCl (wX5_demandAligned cI cB a_mc a_me a_ps a_rg u_21) H := hP.sub [2] rfl
  have hDc : va_D A (wX5_demandAligned cI cB a_mc a_me a_ps a_rg u_21) := hD.sub [2] (by decide) rfl
  have hFc := va_free (wc := (wX5_demandAligned cI cB a_mc a_me a_ps a_rg u_21)) hD hS hA [2] rfl
  refine va_callv (va_runV (As := [.int v_a, .int 8]) (rest := []) ⟨hx, hb, hml, hown, hts⟩ (kX5_demandAligned l D cI cB a_mc a_me a_ps a_rg H.size u_21 v_a 8) (cwV 2 hts (gd_V wd_61 wd_62 wd_63 wd_24 wd_56) rfl rfl rfl hdX5_demandAligned ⟨Nat.le_of_ble_eq_true rfl, Nat.le_of_ble_eq_true rfl⟩) (preV_std (ci := 5) (q0 := 0) hPc hK hDc hNW rfl rfl) rfl rfl hl.1 rfl (lv_room (Nat.le_of_ble_eq_true rfl)) dX0_loadStatus_37 ⟨Nat.zero_le _, Nat.zero_le _⟩) hS (fun q _ h => hFc q h) hFc (fun u_37 t9 H1 locs ht9 hvm9 hw9 hB9 hz9 hk9 hS => ?_)
  have eu_37 : u_37 = fX5_demandAligned v_a 8 u_21 := hw9
  obtain ⟨hP, hD⟩ := back_std (w1 := (wX5_demandAligned cI cB a_mc a_me a_ps a_rg u_37)) (w2 := (wX0_loadStatus cI cB a_co a_ins a_mc a_me a_ps a_by a_ks a_rg v_op v_i v_r v_s v_a v_b u_37 v_word v_bF v_kF)) (wr := [(a_co, .inr (0, [.ref a_mc, .ref a_ins])), (a_ins, .inr (4, [.ref a_mc, .ref a_me, .int v_op, .int v_i, .int v_r, .int v_s, .int v_a, .int v_b])), (a_me, .inr (6, [.ref a_by, .ref a_ks])), (a_ps, .inr (7, [.long v_word])), (a_by, .inl (cB, 8192, .inl v_bF)), (a_ks, .inl (cI, 4, .inl v_kF))]) hP hD [2] [0, 1, 3, 4, 5, 6] [0, 1, 6, 2, 3, 4, 5] rfl rfl (by decide) (by decide) hk9 hFc hB9 ht9 (by decide) rfl
  clear hB9 hk9 hz9 hvm9 ht9 hFc hPc hDc
  generalize H1 = H at hP hS ⊢
  refine lv_aload_n hx hb dX0_loadStatus_40 rfl (lv_at hl 0 rfl) ?_
  refine va_get (D := D) (ci := 0) (v := .ref a_mc) (C := RX0) (T := TX0) (N := 2) hx hb hts in_X0 hown hK hP 0 rfl rfl 0 (by decide) q_0 (fun _ h9 => h9) rfl dX0_loadStatus_41 ?_
  have hPc : va_P D vwCl (wX5_fine cI cB a_mc a_me a_ps a_rg u_37) H := hP.sub [2] rfl
  have hDc : va_D A (wX5_fine cI cB a_mc a_me a_ps a_rg u_37) := hD.sub [2] (by decide) rfl
  have hFc := va_free (wc := (wX5_fine cI cB a_mc a_me a_ps a_rg u_37)) hD hS hA [2] rfl
  refine va_calli (va_runV (As := []) (rest := []) ⟨hx, hb, hml, hown, hts⟩ (kX5_fine l D cI cB a_mc a_me a_ps a_rg H.size u_37 ) (cwV 0 hts (gd_V wd_72 wd_73 wd_74 wd_24 wd_66) rfl rfl rfl hdX5_fine ⟨Nat.le_of_ble_eq_true rfl, Nat.le_of_ble_eq_true rfl⟩) (preV_std (ci := 5) (q0 := 0) hPc hK hDc hNW rfl rfl) rfl rfl hl.1 rfl (lv_room (Nat.le_of_ble_eq_true rfl)) dX0_loadStatus_44 ⟨Nat.zero_le _, Nat.zero_le _⟩) hS (fun q _ h => hFc q h) hFc (fun r_44 u_44 t9 H1 locs ht9 hvm9 hw9 hB9 hz9 hk9 hS => ?_)
  have er_44 : r_44 = fX5_fine u_37 := hw9
  have zr_44 : r_44 = 0 ∨ r_44 = 1 := by rw [er_44]; exact zX5_fine _
  obtain ⟨hP, hD⟩ := back_std (w1 := (wX5_fine cI cB a_mc a_me a_ps a_rg u_37)) (w2 := (wX0_loadStatus cI cB a_co a_ins a_mc a_me a_ps a_by a_ks a_rg v_op v_i v_r v_s v_a v_b u_37 v_word v_bF v_kF)) (wr := [(a_co, .inr (0, [.ref a_mc, .ref a_ins])), (a_ins, .inr (4, [.ref a_mc, .ref a_me, .int v_op, .int v_i, .int v_r, .int v_s, .int v_a, .int v_b])), (a_me, .inr (6, [.ref a_by, .ref a_ks])), (a_ps, .inr (7, [.long v_word])), (a_by, .inl (cB, 8192, .inl v_bF)), (a_ks, .inl (cI, 4, .inl v_kF))]) hP hD [2] [0, 1, 3, 4, 5, 6] [0, 1, 6, 2, 3, 4, 5] rfl rfl (by decide) (by decide) hk9 hFc hB9 ht9 (by decide) rfl
  clear hB9 hk9 hz9 hvm9 ht9 hFc hPc hDc
  generalize H1 = H at hP hS ⊢
  refine lv_if_eq (tgt := 79) hx hb dX0_loadStatus_47 (by decide) (fun c_47 => ?_) (fun c_47 => ?_)
  · skip
    have hf9 : (u_37, v_word) = fX0_loadStatus v_a v_fault v_word v_bF v_kF := by simp only [fX0_loadStatus, ← eu_4, ← eu_21, ← eu_37, ← er_44, if_pos c_47]
    exact W.vret hx hb hr (fun t9 ht9 hW9 => ⟨⟨(u_37, v_word), rfl, hf9, ⟨by rw [ht9]; exact hP, va_K.moved hW9.alike hK, hD⟩⟩, hS.F ht9⟩) hS.2.2 dX0_loadStatus_79
  · skip
    refine lv_aload_n hx hb dX0_loadStatus_50 rfl (lv_at hl 0 rfl) ?_
    refine va_get (D := D) (ci := 0) (v := .ref a_mc) (C := RX0) (T := TX0) (N := 2) hx hb hts in_X0 hown hK hP 0 rfl rfl 0 (by decide) q_0 (fun _ h9 => h9) rfl dX0_loadStatus_51 ?_
    refine va_getN (D := D) (ci := 5) (v := .ref a_ps) (C := RX5) (T := TX5) (N := 4) hx hb hts in_X5 hown hK hP 2 rfl rfl 1 (by decide) n_1 (fun _ h9 => h9) rfl dX0_loadStatus_54 ?_
    refine lv_aload_n hx hb dX0_loadStatus_57 rfl (lv_at hl 0 rfl) ?_
    refine va_get (D := D) (ci := 0) (v := .ref a_mc) (C := RX0) (T := TX0) (N := 2) hx hb hts in_X0 hown hK hP 0 rfl rfl 0 (by decide) q_0 (fun _ h9 => h9) rfl dX0_loadStatus_58 ?_
    refine va_getN (D := D) (ci := 5) (v := .ref a_me) (C := RX5) (T := TX5) (N := 4) hx hb hts in_X5 hown hK hP 2 rfl rfl 0 (by decide) n_2 (fun _ h9 => h9) rfl dX0_loadStatus_61 ?_
    refine lv_aload_n hx hb dX0_loadStatus_64 rfl (lv_at hl 0 rfl) ?_
    refine va_get (D := D) (ci := 0) (v := .ref a_ins) (C := RX0) (T := TX0) (N := 2) hx hb hts in_X0 hown hK hP 0 rfl rfl 1 (by decide) q_1 (fun _ h9 => h9) rfl dX0_loadStatus_65 ?_
    refine va_getN (D := D) (ci := 4) (v := .int v_a) (C := RX4) (T := TX4) (N := 8) hx hb hts in_X4 hown hK hP 1 rfl rfl 6 (by decide) n_0 (fun _ h9 => h9) rfl dX0_loadStatus_68 ?_
    refine lv_bipush (v := 8) hx hb dX0_loadStatus_71 (by decide) ?_
    have hPc : va_P D vwCl (wX6_number cI cB a_me a_by a_ks v_bF) H := hP.sub [3, 5] rfl
    have hDc : va_D A (wX6_number cI cB a_me a_by a_ks v_bF) := hD.sub [3, 5] (by decide) rfl
    have hFc := va_free (wc := (wX6_number cI cB a_me a_by a_ks v_bF)) hD hS hA [3, 5] rfl
    refine va_calll (va_runV (As := [.int v_a, .int 8]) (rest := [.ref a_ps]) ⟨hx, hb, hml, hown, hts⟩ (kX6_number l D cI cB a_me a_by a_ks H.size v_bF v_a 8) (cwV 2 hts (gd_V wd_119 wd_120 wd_121 wd_78 wd_115) rfl rfl rfl hdX6_number ⟨Nat.le_of_ble_eq_true rfl, Nat.le_of_ble_eq_true rfl⟩) (preV_std (ci := 6) (q0 := 0) hPc hK hDc hNW rfl rfl) rfl rfl hl.1 rfl (lv_room (Nat.le_of_ble_eq_true rfl)) dX0_loadStatus_73 ⟨Nat.zero_le _, Nat.zero_le _⟩) hS (fun q _ h => hFc q h) hFc (fun r_73 u_73 t9 H1 locs ht9 hvm9 hw9 hB9 hz9 hk9 hS => ?_)
    have er_73 : r_73 = fX6_number v_a 8 v_bF := hw9
    obtain ⟨hP, hD⟩ := back_std (w1 := (wX6_number cI cB a_me a_by a_ks v_bF)) (w2 := (wX0_loadStatus cI cB a_co a_ins a_mc a_me a_ps a_by a_ks a_rg v_op v_i v_r v_s v_a v_b u_37 v_word v_bF v_kF)) (wr := [(a_co, .inr (0, [.ref a_mc, .ref a_ins])), (a_ins, .inr (4, [.ref a_mc, .ref a_me, .int v_op, .int v_i, .int v_r, .int v_s, .int v_a, .int v_b])), (a_mc, .inr (5, [.ref a_me, .ref a_ps, .ref a_rg, .int u_37])), (a_ps, .inr (7, [.long v_word])), (a_ks, .inl (cI, 4, .inl v_kF))]) hP hD [3, 5] [0, 1, 2, 4, 6] [0, 1, 2, 5, 3, 6, 4] rfl rfl (by decide) (by decide) hk9 hFc hB9 ht9 (by decide) rfl
    clear hB9 hk9 hz9 hvm9 ht9 hFc hPc hDc
    generalize H1 = H at hP hS ⊢
    have hPc : va_P D vwCl (wX7_become cI cB a_ps v_word) H := hP.sub [4] rfl
    have hDc : va_D A (wX7_become cI cB a_ps v_word) := hD.sub [4] (by decide) rfl
    have hFc := va_free (wc := (wX7_become cI cB a_ps v_word)) hD hS hA [4] rfl
    refine va_callv (va_runV (As := [.long r_73]) (rest := []) ⟨hx, hb, hml, hown, hts⟩ (kX7_become l D cI cB a_ps H.size v_word r_73) (cwV 1 hts (gd_V wd_122 wd_123 wd_124 wd_15 wd_117) rfl rfl rfl hdX7_become ⟨Nat.le_of_ble_eq_true rfl, Nat.le_of_ble_eq_true rfl⟩) (preV_std (ci := 7) (q0 := 0) hPc hK hDc hNW rfl rfl) rfl rfl hl.1 rfl (lv_room (Nat.le_of_ble_eq_true rfl)) dX0_loadStatus_76 ⟨Nat.zero_le _, Nat.zero_le _⟩) hS (fun q _ h => hFc q h) hFc (fun u_76 t9 H1 locs ht9 hvm9 hw9 hB9 hz9 hk9 hS => ?_)
    have eu_76 : u_76 = fX7_become r_73 v_word := hw9
    obtain ⟨hP, hD⟩ := back_std (w1 := (wX7_become cI cB a_ps u_76)) (w2 := (wX0_loadStatus cI cB a_co a_ins a_mc a_me a_ps a_by a_ks a_rg v_op v_i v_r v_s v_a v_b u_37 u_76 v_bF v_kF)) (wr := [(a_co, .inr (0, [.ref a_mc, .ref a_ins])), (a_ins, .inr (4, [.ref a_mc, .ref a_me, .int v_op, .int v_i, .int v_r, .int v_s, .int v_a, .int v_b])), (a_mc, .inr (5, [.ref a_me, .ref a_ps, .ref a_rg, .int u_37])), (a_me, .inr (6, [.ref a_by, .ref a_ks])), (a_by, .inl (cB, 8192, .inl v_bF)), (a_ks, .inl (cI, 4, .inl v_kF))]) hP hD [4] [0, 1, 2, 3, 5, 6] [0, 1, 2, 3, 6, 4, 5] rfl rfl (by decide) (by decide) hk9 hFc hB9 ht9 (by decide) rfl
    clear hB9 hk9 hz9 hvm9 ht9 hFc hPc hDc
    generalize H1 = H at hP hS ⊢
    have hf9 : (u_37, u_76) = fX0_loadStatus v_a v_fault v_word v_bF v_kF := by simp only [fX0_loadStatus, ← eu_4, ← eu_21, ← eu_37, ← er_44, ← er_73, ← eu_76, if_neg c_47]
    exact W.vret hx hb hr (fun t9 ht9 hW9 => ⟨⟨(u_37, u_76), rfl, hf9, ⟨by rw [ht9]; exact hP, va_K.moved hW9.alike hK, hD⟩⟩, hS.F ht9⟩) hS.2.2 dX0_loadStatus_79
theorem hdX0_loadStatus : yX0_loadStatus.cls = RX0 ∧ yX0_loadStatus.cls ≠ "java/lang/invoke/MethodHandle" ∧ yX0_loadStatus.cls ≠ "java/lang/invoke/VarHandle" ∧ (parseMethodDescriptor yX0_loadStatus.desc).map (fun d => d.parameters.length) = some 0 := by decide +kernel
