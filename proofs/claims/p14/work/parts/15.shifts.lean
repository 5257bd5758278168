noncomputable def fX8_shiftedKeepingSign (x0 : Int64) (x1 : Int32) : Int64 :=
  ((x0 &&& (-9223372036854775808)) ||| ((x0 <<< ((x1 : Int32).toInt64 &&& 63)) &&& 9223372036854775807))
abbrev wX8_shiftedKeepingSign (cI cB : ClassId) : va_W := []
abbrev rmX8_shiftedKeepingSign : Room := { frames := 0, cells := 0, slots := 0, locals := 0 }
abbrev qX8_shiftedKeepingSign (D : va_G) (cI cB : ClassId) (x0 : Int64) (x1 : Int32) : (Nat → Prop) → Array Value → State → Outcome → State → Prop := fun A9 => va_Ql (fun (r9 : Int64) (u9 : Unit) => r9 = fX8_shiftedKeepingSign x0 x1) (fun u9 t9 => atW D (TYS cI cB) A9 (wX8_shiftedKeepingSign cI cB  ) t9) A9
set_option maxHeartbeats 4000000 in
set_option maxRecDepth 100000 in
theorem kX8_shiftedKeepingSign (l : Launch) (D : va_G) (cI cB : ClassId) (sz : Nat) (x0 : Int64) (x1 : Int32) : MetW l yX8_shiftedKeepingSign (WK yX8_shiftedKeepingSign cX8_shiftedKeepingSign 3 (some .long)) rmX8_shiftedKeepingSign D (TYS cI cB) (wX8_shiftedKeepingSign cI cB  ) sz [.long x0, .int x1] (qX8_shiftedKeepingSign D cI cB  x0 x1) 0 0 := by
  refine met_std (by decide) rfl (Nat.le_of_ble_eq_true rfl) ?_
  intro p e s m below meth c A ls H hx hb hr hml hown hts hlocks hA hP hK hD hS hNW hl
  have hl : lv_has ls 3 [(0, .long x0), (2, .int x1)] := hl
  have q_0 := hts _ (List.mem_cons_of_mem _ wd_394)
  have q_1 := hts _ (List.mem_cons_of_mem _ wd_395)
  refine lv_lload_n hx hb dX8_shiftedKeepingSign_0 rfl (lv_at hl 0 rfl) ?_
  refine lv_ldc2 (v := (-9223372036854775808)) hx hb hown q_0 dX8_shiftedKeepingSign_1 ?_
  refine lv_land hx hb dX8_shiftedKeepingSign_4 ?_
  refine lv_lload_n hx hb dX8_shiftedKeepingSign_5 rfl (lv_at hl 0 rfl) ?_
  refine lv_iload_n hx hb dX8_shiftedKeepingSign_6 rfl (lv_at hl 1 rfl) ?_
  refine lv_lshl hx hb dX8_shiftedKeepingSign_7 rfl ?_
  refine lv_ldc2 (v := 9223372036854775807) hx hb hown q_1 dX8_shiftedKeepingSign_8 ?_
  refine lv_land hx hb dX8_shiftedKeepingSign_11 ?_
  refine lv_lor hx hb dX8_shiftedKeepingSign_12 ?_
  have hf9 : ((x0 &&& (-9223372036854775808)) ||| ((x0 <<< ((x1 : Int32).toInt64 &&& 63)) &&& 9223372036854775807)) = fX8_shiftedKeepingSign x0 x1 := by simp only [fX8_shiftedKeepingSign]
  exact W.lret hx hb hr (fun t9 ht9 hW9 => ⟨⟨((x0 &&& (-9223372036854775808)) ||| ((x0 <<< ((x1 : Int32).toInt64 &&& 63)) &&& 9223372036854775807)), (), rfl, hf9, ⟨by rw [ht9]; exact hP, va_K.moved hW9.alike hK, hD⟩⟩, hS.F ht9⟩) hS.2.2 dX8_shiftedKeepingSign_13
theorem hdX8_shiftedKeepingSign : yX8_shiftedKeepingSign.cls = RX8 ∧ yX8_shiftedKeepingSign.cls ≠ "java/lang/invoke/MethodHandle" ∧ yX8_shiftedKeepingSign.cls ≠ "java/lang/invoke/VarHandle" ∧ (parseMethodDescriptor yX8_shiftedKeepingSign.desc).map (fun d => d.parameters.length) = some 2 := by decide +kernel
noncomputable def fX8_setWord (x0 : Int32) (v_r : Int32) (v_word : Int64) (v_rF : (Nat → Int32)) : (Int64 × (Nat → Int32)) :=
  let u_12 := fX5_setReg v_r x0 v_rF
  let u_21 := fX5_conditionByNumber ((x0 : Int32).toInt64) v_word
  (u_21, u_12)
abbrev wX8_setWord (cI cB : ClassId) (a_sh a_ins a_mc a_me a_ps a_rg : Nat) (v_op : Int32) (v_i : Int32) (v_r : Int32) (v_s : Int32) (v_a : Int32) (v_b : Int32) (v_fault : Int32) (v_word : Int64) (v_rF : (Nat → Int32)) : va_W := [(a_sh, .inr (8, [.ref a_mc, .ref a_ins])), (a_ins, .inr (4, [.ref a_mc, .ref a_me, .int v_op, .int v_i, .int v_r, .int v_s, .int v_a, .int v_b])), (a_mc, .inr (5, [.ref a_me, .ref a_ps, .ref a_rg, .int v_fault])), (a_ps, .inr (7, [.long v_word])), (a_rg, .inl (cI, 16, .inl v_rF))]
abbrev rmX8_setWord : Room := { frames := 2, cells := 0, slots := 0, locals := 43 }
abbrev qX8_setWord (D : va_G) (cI cB : ClassId) (a_sh a_ins a_mc a_me a_ps a_rg : Nat) (v_op : Int32) (v_i : Int32) (v_r : Int32) (v_s : Int32) (v_a : Int32) (v_b : Int32) (v_fault : Int32) (v_word : Int64) (v_rF : (Nat → Int32)) (x0 : Int32) : (Nat → Prop) → Array Value → State → Outcome → State → Prop := fun A9 => va_Qv (fun (u9 : (Int64 × (Nat → Int32))) => u9 = fX8_setWord x0 v_r v_word v_rF) (fun u9 t9 => atW D (TYS cI cB) A9 (wX8_setWord cI cB a_sh a_ins a_mc a_me a_ps a_rg v_op v_i v_r v_s v_a v_b v_fault u9.1 u9.2) t9) A9
set_option maxHeartbeats 4000000 in
set_option maxRecDepth 100000 in
theorem kX8_setWord (l : Launch) (D : va_G) (cI cB : ClassId) (a_sh a_ins a_mc a_me a_ps a_rg : Nat) (sz : Nat) (v_op : Int32) (v_i : Int32) (v_r : Int32) (v_s : Int32) (v_a : Int32) (v_b : Int32) (v_fault : Int32) (v_word : Int64) (v_rF : (Nat → Int32)) (x0 : Int32) : MetW l yX8_setWord (WK yX8_setWord cX8_setWord 2 none) rmX8_setWord D (TYS cI cB) (wX8_setWord cI cB a_sh a_ins a_mc a_me a_ps a_rg v_op v_i v_r v_s v_a v_b v_fault v_word v_rF) sz [.ref a_sh, .int x0] (qX8_setWord D cI cB a_sh a_ins a_mc a_me a_ps a_rg v_op v_i v_r v_s v_a v_b v_fault v_word v_rF x0) 0 0 := by
  refine met_std (by decide) rfl (Nat.le_of_ble_eq_true rfl) ?_
  intro p e s m below meth c A ls H hx hb hr hml hown hts hlocks hA hP hK hD hS hNW hl
  have hl : lv_has ls 2 [(0, .ref a_sh), (1, .int x0)] := hl
  have q_0 := hts _ (List.mem_cons_of_mem _ wd_388)
  have q_1 := hts _ (List.mem_cons_of_mem _ wd_389)
  have n_0 := hNW.f (A := ([.ref a_sh, .int x0] : List Value).toArray) ("MainframeCore$Shifts", 25, "MainframeCore$Instruction", "\x72", "I", "MainframeCore") (by decide +kernel)
  refine lv_aload_n hx hb dX8_setWord_0 rfl (lv_at hl 0 rfl) ?_
  refine va_get (D := D) (ci := 8) (v := .ref a_mc) (C := RX8) (T := TX8) (N := 2) hx hb hts in_X8 hown hK hP 0 rfl rfl 0 (by decide) q_0 (fun _ h9 => h9) rfl dX8_setWord_1 ?_
  refine lv_aload_n hx hb dX8_setWord_4 rfl (lv_at hl 0 rfl) ?_
  refine va_get (D := D) (ci := 8) (v := .ref a_ins) (C := RX8) (T := TX8) (N := 2) hx hb hts in_X8 hown hK hP 0 rfl rfl 1 (by decide) q_1 (fun _ h9 => h9) rfl dX8_setWord_5 ?_
  refine va_getN (D := D) (ci := 4) (v := .int v_r) (C := RX4) (T := TX4) (N := 8) hx hb hts in_X4 hown hK hP 1 rfl rfl 4 (by decide) n_0 (fun _ h9 => h9) rfl dX8_setWord_8 ?_
  refine lv_iload_n hx hb dX8_setWord_11 rfl (lv_at hl 1 rfl) ?_
  have hPc : va_P D vwCl (wX5_setReg cI cB a_mc a_me a_ps a_rg v_fault v_rF) H := hP.sub [2, 4] rfl
  have hDc : va_D A (wX5_setReg cI cB a_mc a_me a_ps a_rg v_fault v_rF) := hD.sub [2, 4] (by decide) rfl
  have hFc := va_free (wc := (wX5_setReg cI cB a_mc a_me a_ps a_rg v_fault v_rF)) hD hS hA [2, 4] rfl
  refine va_callv (va_runV (As := [.int v_r, .int x0]) (rest := []) ⟨hx, hb, hml, hown, hts⟩ (kX5_setReg l D cI cB a_mc a_me a_ps a_rg H.size v_fault v_rF v_r x0) (cwV 2 hts (gd_V wd_391 wd_22 wd_23 wd_24 wd_6) rfl rfl rfl hdX5_setReg ⟨Nat.le_of_ble_eq_true rfl, Nat.le_of_ble_eq_true rfl⟩) (preV_std (ci := 5) (q0 := 0) hPc hK hDc hNW rfl rfl) rfl rfl hl.1 rfl (lv_room (Nat.le_of_ble_eq_true rfl)) dX8_setWord_12 ⟨Nat.zero_le _, Nat.zero_le _⟩) hS (fun q _ h => hFc q h) hFc (fun u_12 t9 H1 locs ht9 hvm9 hw9 hB9 hz9 hk9 hS => ?_)
  have eu_12 : u_12 = fX5_setReg v_r x0 v_rF := hw9
  obtain ⟨hP, hD⟩ := back_std (w1 := (wX5_setReg cI cB a_mc a_me a_ps a_rg v_fault u_12)) (w2 := (wX8_setWord cI cB a_sh a_ins a_mc a_me a_ps a_rg v_op v_i v_r v_s v_a v_b v_fault v_word u_12)) (wr := [(a_sh, .inr (8, [.ref a_mc, .ref a_ins])), (a_ins, .inr (4, [.ref a_mc, .ref a_me, .int v_op, .int v_i, .int v_r, .int v_s, .int v_a, .int v_b])), (a_ps, .inr (7, [.long v_word]))]) hP hD [2, 4] [0, 1, 3] [0, 1, 3, 2, 4] rfl rfl (by decide) (by decide) hk9 hFc hB9 ht9 (by decide) rfl
  clear hB9 hk9 hz9 hvm9 ht9 hFc hPc hDc
  generalize H1 = H at hP hS ⊢
  refine lv_aload_n hx hb dX8_setWord_15 rfl (lv_at hl 0 rfl) ?_
  refine va_get (D := D) (ci := 8) (v := .ref a_mc) (C := RX8) (T := TX8) (N := 2) hx hb hts in_X8 hown hK hP 0 rfl rfl 0 (by decide) q_0 (fun _ h9 => h9) rfl dX8_setWord_16 ?_
  refine lv_iload_n hx hb dX8_setWord_19 rfl (lv_at hl 1 rfl) ?_
  refine lv_i2l hx hb dX8_setWord_20 rfl ?_
  have hPc : va_P D vwCl (wX5_conditionByNumber cI cB a_mc a_me a_ps a_rg v_fault v_word) H := hP.sub [2, 3] rfl
  have hDc : va_D A (wX5_conditionByNumber cI cB a_mc a_me a_ps a_rg v_fault v_word) := hD.sub [2, 3] (by decide) rfl
  have hFc := va_free (wc := (wX5_conditionByNumber cI cB a_mc a_me a_ps a_rg v_fault v_word)) hD hS hA [2, 3] rfl
  refine va_callv (va_runV (As := [.long (x0 : Int32).toInt64]) (rest := []) ⟨hx, hb, hml, hown, hts⟩ (kX5_conditionByNumber l D cI cB a_mc a_me a_ps a_rg H.size v_fault v_word ((x0 : Int32).toInt64)) (cwV 1 hts (gd_V wd_392 wd_252 wd_253 wd_24 wd_239) rfl rfl rfl hdX5_conditionByNumber ⟨Nat.le_of_ble_eq_true rfl, Nat.le_of_ble_eq_true rfl⟩) (preV_std (ci := 5) (q0 := 0) hPc hK hDc hNW rfl rfl) rfl rfl hl.1 rfl (lv_room (Nat.le_of_ble_eq_true rfl)) dX8_setWord_21 ⟨Nat.zero_le _, Nat.zero_le _⟩) hS (fun q _ h => hFc q h) hFc (fun u_21 t9 H1 locs ht9 hvm9 hw9 hB9 hz9 hk9 hS => ?_)
  have eu_21 : u_21 = fX5_conditionByNumber ((x0 : Int32).toInt64) v_word := hw9
  obtain ⟨hP, hD⟩ := back_std (w1 := (wX5_conditionByNumber cI cB a_mc a_me a_ps a_rg v_fault u_21)) (w2 := (wX8_setWord cI cB a_sh a_ins a_mc a_me a_ps a_rg v_op v_i v_r v_s v_a v_b v_fault u_21 u_12)) (wr := [(a_sh, .inr (8, [.ref a_mc, .ref a_ins])), (a_ins, .inr (4, [.ref a_mc, .ref a_me, .int v_op, .int v_i, .int v_r, .int v_s, .int v_a, .int v_b])), (a_rg, .inl (cI, 16, .inl u_12))]) hP hD [2, 3] [0, 1, 4] [0, 1, 3, 4, 2] rfl rfl (by decide) (by decide) hk9 hFc hB9 ht9 (by decide) rfl
  clear hB9 hk9 hz9 hvm9 ht9 hFc hPc hDc
  generalize H1 = H at hP hS ⊢
  have hf9 : (u_21, u_12) = fX8_setWord x0 v_r v_word v_rF := by simp only [fX8_setWord, ← eu_12, ← eu_21]
  exact W.vret hx hb hr (fun t9 ht9 hW9 => ⟨⟨(u_21, u_12), rfl, hf9, ⟨by rw [ht9]; exact hP, va_K.moved hW9.alike hK, hD⟩⟩, hS.F ht9⟩) hS.2.2 dX8_setWord_24
theorem hdX8_setWord : yX8_setWord.cls = RX8 ∧ yX8_setWord.cls ≠ "java/lang/invoke/MethodHandle" ∧ yX8_setWord.cls ≠ "java/lang/invoke/VarHandle" ∧ (parseMethodDescriptor yX8_setWord.desc).map (fun d => d.parameters.length) = some 1 := by decide +kernel
noncomputable def fX8_setDouble (x0 : Int64) (v_r : Int32) (v_word : Int64) (v_rF : (Nat → Int32)) : (Int64 × (Nat → Int32)) :=
  let u_12 := fX5_setPair v_r x0 v_rF
  let u_20 := fX5_conditionByNumber x0 v_word
  (u_20, u_12)
abbrev wX8_setDouble (cI cB : ClassId) (a_sh a_ins a_mc a_me a_ps a_rg : Nat) (v_op : Int32) (v_i : Int32) (v_r : Int32) (v_s : Int32) (v_a : Int32) (v_b : Int32) (v_fault : Int32) (v_word : Int64) (v_rF : (Nat → Int32)) : va_W := [(a_sh, .inr (8, [.ref a_mc, .ref a_ins])), (a_ins, .inr (4, [.ref a_mc, .ref a_me, .int v_op, .int v_i, .int v_r, .int v_s, .int v_a, .int v_b])), (a_mc, .inr (5, [.ref a_me, .ref a_ps, .ref a_rg, .int v_fault])), (a_ps, .inr (7, [.long v_word])), (a_rg, .inl (cI, 16, .inl v_rF))]
abbrev rmX8_setDouble : Room := { frames := 2, cells := 0, slots := 0, locals := 45 }
abbrev qX8_setDouble (D : va_G) (cI cB : ClassId) (a_sh a_ins a_mc a_me a_ps a_rg : Nat) (v_op : Int32) (v_i : Int32) (v_r : Int32) (v_s : Int32) (v_a : Int32) (v_b : Int32) (v_fault : Int32) (v_word : Int64) (v_rF : (Nat → Int32)) (x0 : Int64) : (Nat → Prop) → Array Value → State → Outcome → State → Prop := fun A9 => va_Qv (fun (u9 : (Int64 × (Nat → Int32))) => u9 = fX8_setDouble x0 v_r v_word v_rF) (fun u9 t9 => atW D (TYS cI cB) A9 (wX8_setDouble cI cB a_sh a_ins a_mc a_me a_ps a_rg v_op v_i v_r v_s v_a v_b v_fault u9.1 u9.2) t9) A9
set_option maxHeartbeats 4000000 in
set_option maxRecDepth 100000 in
theorem kX8_setDouble (l : Launch) (D : va_G) (cI cB : ClassId) (a_sh a_ins a_mc a_me a_ps a_rg : Nat) (sz : Nat) (v_op : Int32) (v_i : Int32) (v_r : Int32) (v_s : Int32) (v_a : Int32) (v_b : Int32) (v_fault : Int32) (v_word : Int64) (v_rF : (Nat → Int32)) (x0 : Int64) : MetW l yX8_setDouble (WK yX8_setDouble cX8_setDouble 3 none) rmX8_setDouble D (TYS cI cB) (wX8_setDouble cI cB a_sh a_ins a_mc a_me a_ps a_rg v_op v_i v_r v_s v_a v_b v_fault v_word v_rF) sz [.ref a_sh, .long x0] (qX8_setDouble D cI cB a_sh a_ins a_mc a_me a_ps a_rg v_op v_i v_r v_s v_a v_b v_fault v_word v_rF x0) 0 0 := by
  refine met_std (by decide) rfl (Nat.le_of_ble_eq_true rfl) ?_
  intro p e s m below meth c A ls H hx hb hr hml hown hts hlocks hA hP hK hD hS hNW hl
  have hl : lv_has ls 3 [(0, .ref a_sh), (1, .long x0)] := hl
  have q_0 := hts _ (List.mem_cons_of_mem _ wd_388)
  have q_1 := hts _ (List.mem_cons_of_mem _ wd_389)
  have n_0 := hNW.f (A := ([.ref a_sh, .long x0] : List Value).toArray) ("MainframeCore$Shifts", 25, "MainframeCore$Instruction", "\x72", "I", "MainframeCore") (by decide +kernel)
  refine lv_aload_n hx hb dX8_setDouble_0 rfl (lv_at hl 0 rfl) ?_
  refine va_get (D := D) (ci := 8) (v := .ref a_mc) (C := RX8) (T := TX8) (N := 2) hx hb hts in_X8 hown hK hP 0 rfl rfl 0 (by decide) q_0 (fun _ h9 => h9) rfl dX8_setDouble_1 ?_
  refine lv_aload_n hx hb dX8_setDouble_4 rfl (lv_at hl 0 rfl) ?_
  refine va_get (D := D) (ci := 8) (v := .ref a_ins) (C := RX8) (T := TX8) (N := 2) hx hb hts in_X8 hown hK hP 0 rfl rfl 1 (by decide) q_1 (fun _ h9 => h9) rfl dX8_setDouble_5 ?_
  refine va_getN (D := D) (ci := 4) (v := .int v_r) (C := RX4) (T := TX4) (N := 8) hx hb hts in_X4 hown hK hP 1 rfl rfl 4 (by decide) n_0 (fun _ h9 => h9) rfl dX8_setDouble_8 ?_
  refine lv_lload_n hx hb dX8_setDouble_11 rfl (lv_at hl 1 rfl) ?_
  have hPc : va_P D vwCl (wX5_setPair cI cB a_mc a_me a_ps a_rg v_fault v_rF) H := hP.sub [2, 4] rfl
  have hDc : va_D A (wX5_setPair cI cB a_mc a_me a_ps a_rg v_fault v_rF) := hD.sub [2, 4] (by decide) rfl
  have hFc := va_free (wc := (wX5_setPair cI cB a_mc a_me a_ps a_rg v_fault v_rF)) hD hS hA [2, 4] rfl
  refine va_callv (va_runV (As := [.int v_r, .long x0]) (rest := []) ⟨hx, hb, hml, hown, hts⟩ (kX5_setPair l D cI cB a_mc a_me a_ps a_rg H.size v_fault v_rF v_r x0) (cwV 2 hts (gd_V wd_414 wd_415 wd_416 wd_24 wd_374) rfl rfl rfl hdX5_setPair ⟨Nat.le_of_ble_eq_true rfl, Nat.le_of_ble_eq_true rfl⟩) (preV_std (ci := 5) (q0 := 0) hPc hK hDc hNW rfl rfl) rfl rfl hl.1 rfl (lv_room (Nat.le_of_ble_eq_true rfl)) dX8_setDouble_12 ⟨Nat.zero_le _, Nat.zero_le _⟩) hS (fun q _ h => hFc q h) hFc (fun u_12 t9 H1 locs ht9 hvm9 hw9 hB9 hz9 hk9 hS => ?_)
  have eu_12 : u_12 = fX5_setPair v_r x0 v_rF := hw9
  obtain ⟨hP, hD⟩ := back_std (w1 := (wX5_setPair cI cB a_mc a_me a_ps a_rg v_fault u_12)) (w2 := (wX8_setDouble cI cB a_sh a_ins a_mc a_me a_ps a_rg v_op v_i v_r v_s v_a v_b v_fault v_word u_12)) (wr := [(a_sh, .inr (8, [.ref a_mc, .ref a_ins])), (a_ins, .inr (4, [.ref a_mc, .ref a_me, .int v_op, .int v_i, .int v_r, .int v_s, .int v_a, .int v_b])), (a_ps, .inr (7, [.long v_word]))]) hP hD [2, 4] [0, 1, 3] [0, 1, 3, 2, 4] rfl rfl (by decide) (by decide) hk9 hFc hB9 ht9 (by decide) rfl
  clear hB9 hk9 hz9 hvm9 ht9 hFc hPc hDc
  generalize H1 = H at hP hS ⊢
  refine lv_aload_n hx hb dX8_setDouble_15 rfl (lv_at hl 0 rfl) ?_
  refine va_get (D := D) (ci := 8) (v := .ref a_mc) (C := RX8) (T := TX8) (N := 2) hx hb hts in_X8 hown hK hP 0 rfl rfl 0 (by decide) q_0 (fun _ h9 => h9) rfl dX8_setDouble_16 ?_
  refine lv_lload_n hx hb dX8_setDouble_19 rfl (lv_at hl 1 rfl) ?_
  have hPc : va_P D vwCl (wX5_conditionByNumber cI cB a_mc a_me a_ps a_rg v_fault v_word) H := hP.sub [2, 3] rfl
  have hDc : va_D A (wX5_conditionByNumber cI cB a_mc a_me a_ps a_rg v_fault v_word) := hD.sub [2, 3] (by decide) rfl
  have hFc := va_free (wc := (wX5_conditionByNumber cI cB a_mc a_me a_ps a_rg v_fault v_word)) hD hS hA [2, 3] rfl
  refine va_callv (va_runV (As := [.long x0]) (rest := []) ⟨hx, hb, hml, hown, hts⟩ (kX5_conditionByNumber l D cI cB a_mc a_me a_ps a_rg H.size v_fault v_word x0) (cwV 1 hts (gd_V wd_392 wd_252 wd_253 wd_24 wd_239) rfl rfl rfl hdX5_conditionByNumber ⟨Nat.le_of_ble_eq_true rfl, Nat.le_of_ble_eq_true rfl⟩) (preV_std (ci := 5) (q0 := 0) hPc hK hDc hNW rfl rfl) rfl rfl hl.1 rfl (lv_room (Nat.le_of_ble_eq_true rfl)) dX8_setDouble_20 ⟨Nat.zero_le _, Nat.zero_le _⟩) hS (fun q _ h => hFc q h) hFc (fun u_20 t9 H1 locs ht9 hvm9 hw9 hB9 hz9 hk9 hS => ?_)
  have eu_20 : u_20 = fX5_conditionByNumber x0 v_word := hw9
  obtain ⟨hP, hD⟩ := back_std (w1 := (wX5_conditionByNumber cI cB a_mc a_me a_ps a_rg v_fault u_20)) (w2 := (wX8_setDouble cI cB a_sh a_ins a_mc a_me a_ps a_rg v_op v_i v_r v_s v_a v_b v_fault u_20 u_12)) (wr := [(a_sh, .inr (8, [.ref a_mc, .ref a_ins])), (a_ins, .inr (4, [.ref a_mc, .ref a_me, .int v_op, .int v_i, .int v_r, .int v_s, .int v_a, .int v_b])), (a_rg, .inl (cI, 16, .inl u_12))]) hP hD [2, 3] [0, 1, 4] [0, 1, 3, 4, 2] rfl rfl (by decide) (by decide) hk9 hFc hB9 ht9 (by decide) rfl
  clear hB9 hk9 hz9 hvm9 ht9 hFc hPc hDc
  generalize H1 = H at hP hS ⊢
  have hf9 : (u_20, u_12) = fX8_setDouble x0 v_r v_word v_rF := by simp only [fX8_setDouble, ← eu_12, ← eu_20]
  exact W.vret hx hb hr (fun t9 ht9 hW9 => ⟨⟨(u_20, u_12), rfl, hf9, ⟨by rw [ht9]; exact hP, va_K.moved hW9.alike hK, hD⟩⟩, hS.F ht9⟩) hS.2.2 dX8_setDouble_23
theorem hdX8_setDouble : yX8_setDouble.cls = RX8 ∧ yX8_setDouble.cls ≠ "java/lang/invoke/MethodHandle" ∧ yX8_setDouble.cls ≠ "java/lang/invoke/VarHandle" ∧ (parseMethodDescriptor yX8_setDouble.desc).map (fun d => d.parameters.length) = some 1 := by decide +kernel
noncomputable def LX8_overflowIfLost_9 (x0 : Int64) (x1 : Int32) : Nat → (Int32 × Int64 × Int32) → (Int32 × Int64 × Int32)
  | 0, w_9 => w_9
  | n9 + 1, w_9 =>
    if x1 ≤ w_9.2.2 then ((w_9.1, w_9.2.1, w_9.2.2)) else (let x_19 := (w_9.2.1 <<< ((1 : Int32).toInt64 &&& 63)); let m_57 : Int32 := (if w_9.1 = 0 then (0) else (let m_38 : Int32 := (if 0 ≤ (lg_cmp (x_19) (0)) then (0) else (1)); let m_49 : Int32 := (if 0 ≤ (lg_cmp (x0) (0)) then (0) else (1)); if m_38 = m_49 then (1) else (0))); let x_59 := w_9.2.2 + 1; LX8_overflowIfLost_9 x0 x1 n9 (m_57, x_19, x_59))
noncomputable def fX8_overflowIfLost (x0 : Int64) (x1 : Int32) (v_fault : Int32) (v_word : Int64) : (Int32 × Int64) :=
  let g_9 := LX8_overflowIfLost_9 x0 x1 (msU x1 0 + 1) (1, x0, 0)
  if g_9.1 = 0 then (let u_78 := fX5_overflow 36 8 v_fault v_word; (u_78.1, u_78.2)) else ((v_fault, v_word))
abbrev wX8_overflowIfLost (cI cB : ClassId) (a_sh a_ins a_mc a_me a_ps a_rg : Nat) (v_fault : Int32) (v_word : Int64) : va_W := [(a_sh, .inr (8, [.ref a_mc, .ref a_ins])), (a_mc, .inr (5, [.ref a_me, .ref a_ps, .ref a_rg, .int v_fault])), (a_ps, .inr (7, [.long v_word]))]
abbrev rmX8_overflowIfLost : Room := { frames := 2, cells := 0, slots := 0, locals := 43 }
abbrev qX8_overflowIfLost (D : va_G) (cI cB : ClassId) (a_sh a_ins a_mc a_me a_ps a_rg : Nat) (v_fault : Int32) (v_word : Int64) (x0 : Int64) (x1 : Int32) : (Nat → Prop) → Array Value → State → Outcome → State → Prop := fun A9 => va_Qv (fun (u9 : (Int32 × Int64)) => u9 = fX8_overflowIfLost x0 x1 v_fault v_word) (fun u9 t9 => atW D (TYS cI cB) A9 (wX8_overflowIfLost cI cB a_sh a_ins a_mc a_me a_ps a_rg u9.1 u9.2) t9) A9
set_option maxHeartbeats 4000000 in
set_option maxRecDepth 100000 in
theorem kX8_overflowIfLost (l : Launch) (D : va_G) (cI cB : ClassId) (a_sh a_ins a_mc a_me a_ps a_rg : Nat) (sz : Nat) (v_fault : Int32) (v_word : Int64) (x0 : Int64) (x1 : Int32) : MetW l yX8_overflowIfLost (WK yX8_overflowIfLost cX8_overflowIfLost 8 none) rmX8_overflowIfLost D (TYS cI cB) (wX8_overflowIfLost cI cB a_sh a_ins a_mc a_me a_ps a_rg v_fault v_word) sz [.ref a_sh, .long x0, .int x1] (qX8_overflowIfLost D cI cB a_sh a_ins a_mc a_me a_ps a_rg v_fault v_word x0 x1) 0 0 := by
  refine met_std (by decide) rfl (Nat.le_of_ble_eq_true rfl) ?_
  intro p e s m below meth c A ls H hx hb hr hml hown hts hlocks hA hP hK hD hS hNW hl
  have hl : lv_has ls 8 [(0, .ref a_sh), (1, .long x0), (3, .int x1)] := hl
  have q_0 := hts _ (List.mem_cons_of_mem _ wd_388)
  refine lv_iconst (v := 1) hx hb dX8_overflowIfLost_0 (by decide) ?_
  refine lv_istore (lv' := [(4, .int 1), (0, .ref a_sh), (1, .long x0), (3, .int x1)]) hx hb dX8_overflowIfLost_1 hl (by decide) rfl (fun ls hl => ?_)
  refine lv_lload_n hx hb dX8_overflowIfLost_3 rfl (lv_at hl 2 rfl) ?_
  refine lv_lstore (lv' := [(5, .long x0), (4, .int 1), (0, .ref a_sh), (1, .long x0), (3, .int x1)]) hx hb dX8_overflowIfLost_4 hl (by decide) rfl (fun ls hl => ?_)
  refine lv_iconst (v := 0) hx hb dX8_overflowIfLost_6 (by decide) ?_
  refine lv_istore (lv' := [(7, .int 0), (5, .long x0), (4, .int 1), (0, .ref a_sh), (1, .long x0), (3, .int x1)]) hx hb dX8_overflowIfLost_7 hl (by decide) rfl (fun ls hl => ?_)
  obtain ⟨g_9, eg_9⟩ : ∃ z : (Int32 × Int64 × Int32), z = LX8_overflowIfLost_9 x0 x1 (msU x1 0 + 1) (1, x0, 0) := ⟨_, rfl⟩
  have K_9_0 : ∀ (H : Heap) (locs : List Loc), va_P D vwCl (wX8_overflowIfLost cI cB a_sh a_ins a_mc a_me a_ps a_rg v_fault v_word) H → va_D A (wX8_overflowIfLost cI cB a_sh a_ins a_mc a_me a_ps a_rg v_fault v_word) → va_S A s.heap H locs → ∀ (ls : Array Slot), lv_has ls 8 [(0, .ref a_sh), (1, .long x0), (3, .int x1), (4, .int g_9.1), (5, .long g_9.2.1), (7, .int g_9.2.2)] → W p l e rmX8_overflowIfLost s m ([.ref a_sh, .long x0, .int x1] : List Value).toArray below meth c H locs 0 0 (MQ below (qX8_overflowIfLost D cI cB a_sh a_ins a_mc a_me a_ps a_rg v_fault v_word x0 x1 A) ([.ref a_sh, .long x0, .int x1] : List Value).toArray s 0 0 A) (F0 m 65 ls []) := by
    intro H locs hP hD hS ls hl
    refine lv_iload hx hb dX8_overflowIfLost_65 (lv_at hl 3 rfl) ?_
    refine lv_if_ne (tgt := 81) hx hb dX8_overflowIfLost_67 (by decide) (fun c_67 => ?_) (fun c_67 => ?_)
    · skip
      have hf9 : (v_fault, v_word) = fX8_overflowIfLost x0 x1 v_fault v_word := by simp only [fX8_overflowIfLost, ← eg_9, if_neg c_67]
      exact W.vret hx hb hr (fun t9 ht9 hW9 => ⟨⟨(v_fault, v_word), rfl, hf9, ⟨by rw [ht9]; exact hP, va_K.moved hW9.alike hK, hD⟩⟩, hS.F ht9⟩) hS.2.2 dX8_overflowIfLost_81
    · skip
      refine lv_aload_n hx hb dX8_overflowIfLost_70 rfl (lv_at hl 0 rfl) ?_
      refine va_get (D := D) (ci := 8) (v := .ref a_mc) (C := RX8) (T := TX8) (N := 2) hx hb hts in_X8 hown hK hP 0 rfl rfl 0 (by decide) q_0 (fun _ h9 => h9) rfl dX8_overflowIfLost_71 ?_
      refine lv_bipush (v := 36) hx hb dX8_overflowIfLost_74 (by decide) ?_
      refine lv_bipush (v := 8) hx hb dX8_overflowIfLost_76 (by decide) ?_
      have hPc : va_P D vwCl (wX5_overflow cI cB a_mc a_me a_ps a_rg v_fault v_word) H := hP.sub [1, 2] rfl
      have hDc : va_D A (wX5_overflow cI cB a_mc a_me a_ps a_rg v_fault v_word) := hD.sub [1, 2] (by decide) rfl
      have hFc := va_free (wc := (wX5_overflow cI cB a_mc a_me a_ps a_rg v_fault v_word)) hD hS hA [1, 2] rfl
      refine va_callv (va_runV (As := [.int 36, .int 8]) (rest := []) ⟨hx, hb, hml, hown, hts⟩ (kX5_overflow l D cI cB a_mc a_me a_ps a_rg H.size v_fault v_word 36 8) (cwV 2 hts (gd_V wd_397 wd_246 wd_247 wd_24 wd_243) rfl rfl rfl hdX5_overflow ⟨Nat.le_of_ble_eq_true rfl, Nat.le_of_ble_eq_true rfl⟩) (preV_std (ci := 5) (q0 := 0) hPc hK hDc hNW rfl rfl) rfl rfl hl.1 rfl (lv_room (Nat.le_of_ble_eq_true rfl)) dX8_overflowIfLost_78 ⟨Nat.zero_le _, Nat.zero_le _⟩) hS (fun q _ h => hFc q h) hFc (fun u_78 t9 H1 locs ht9 hvm9 hw9 hB9 hz9 hk9 hS => ?_)
      have eu_78 : u_78 = fX5_overflow 36 8 v_fault v_word := hw9
      obtain ⟨hP, hD⟩ := back_std (w1 := (wX5_overflow cI cB a_mc a_me a_ps a_rg u_78.1 u_78.2)) (w2 := (wX8_overflowIfLost cI cB a_sh a_ins a_mc a_me a_ps a_rg u_78.1 u_78.2)) (wr := [(a_sh, .inr (8, [.ref a_mc, .ref a_ins]))]) hP hD [1, 2] [0] [0, 1, 2] rfl rfl (by decide) (by decide) hk9 hFc hB9 ht9 (by decide) rfl
      clear hB9 hk9 hz9 hvm9 ht9 hFc hPc hDc
      generalize H1 = H at hP hS ⊢
      have hf9 : (u_78.1, u_78.2) = fX8_overflowIfLost x0 x1 v_fault v_word := by simp only [fX8_overflowIfLost, ← eg_9, ← eu_78, if_pos c_67]
      exact W.vret hx hb hr (fun t9 ht9 hW9 => ⟨⟨(u_78.1, u_78.2), rfl, hf9, ⟨by rw [ht9]; exact hP, va_K.moved hW9.alike hK, hD⟩⟩, hS.F ht9⟩) hS.2.2 dX8_overflowIfLost_81
  have lp_9 : ∀ (n9 : Nat) (w_9 : (Int32 × Int64 × Int32)), msU x1 w_9.2.2 < n9 → LX8_overflowIfLost_9 x0 x1 n9 w_9 = g_9 → ∀ (H : Heap) (locs : List Loc), va_P D vwCl (wX8_overflowIfLost cI cB a_sh a_ins a_mc a_me a_ps a_rg v_fault v_word) H → va_D A (wX8_overflowIfLost cI cB a_sh a_ins a_mc a_me a_ps a_rg v_fault v_word) → va_S A s.heap H locs → ∀ (ls : Array Slot), lv_has ls 8 [(0, .ref a_sh), (1, .long x0), (3, .int x1), (4, .int w_9.1), (5, .long w_9.2.1), (7, .int w_9.2.2)] → W p l e rmX8_overflowIfLost s m ([.ref a_sh, .long x0, .int x1] : List Value).toArray below meth c H locs 0 0 (MQ below (qX8_overflowIfLost D cI cB a_sh a_ins a_mc a_me a_ps a_rg v_fault v_word x0 x1 A) ([.ref a_sh, .long x0, .int x1] : List Value).toArray s 0 0 A) (F0 m 9 ls []) := by
    intro n9
    induction n9 with
    | zero => intro w_9 hm9; exact absurd hm9 (Nat.not_lt_zero _)
    | succ n9 ih =>
      intro w_9 hm9 hL9 H locs hP hD hS ls hl
      refine lv_iload hx hb dX8_overflowIfLost_9 (lv_at hl 5 rfl) ?_
      refine lv_iload_n hx hb dX8_overflowIfLost_11 rfl (lv_at hl 2 rfl) ?_
      refine lv_icmp_ge (tgt := 65) hx hb dX8_overflowIfLost_12 (by decide) (fun c_12 => ?_) (fun c_12 => ?_)
      · skip
        have hg9 : (w_9.1, w_9.2.1, w_9.2.2) = g_9 := by rw [← hL9]; simp only [LX8_overflowIfLost_9, if_pos c_12]
        subst hg9
        exact K_9_0 _ _ hP hD hS ls (lv_sub hl [0, 1, 2, 3, 4, 5] rfl)
      · skip
        refine lv_lload hx hb dX8_overflowIfLost_15 (lv_at hl 4 rfl) ?_
        refine lv_iconst (v := 1) hx hb dX8_overflowIfLost_17 (by decide) ?_
        refine lv_lshl hx hb dX8_overflowIfLost_18 rfl ?_
        refine lv_topl (fun x_19 ex_19 => ?_)
        refine lv_lstore (lv' := [(5, .long x_19), (0, .ref a_sh), (1, .long x0), (3, .int x1), (4, .int w_9.1), (7, .int w_9.2.2)]) hx hb dX8_overflowIfLost_19 hl (by decide) rfl (fun ls hl => ?_)
        refine lv_iload hx hb dX8_overflowIfLost_21 (lv_at hl 4 rfl) ?_
        have J_57 : ∀ (m_57 : Int32), m_57 = (if w_9.1 = 0 then (0) else (let m_38 : Int32 := (if 0 ≤ (lg_cmp (x_19) (0)) then (0) else (1)); let m_49 : Int32 := (if 0 ≤ (lg_cmp (x0) (0)) then (0) else (1)); if m_38 = m_49 then (1) else (0))) → ∀ (H : Heap) (locs : List Loc), va_P D vwCl (wX8_overflowIfLost cI cB a_sh a_ins a_mc a_me a_ps a_rg v_fault v_word) H → va_D A (wX8_overflowIfLost cI cB a_sh a_ins a_mc a_me a_ps a_rg v_fault v_word) → va_S A s.heap H locs → ∀ (ls : Array Slot), lv_has ls 8 [(0, .ref a_sh), (1, .long x0), (3, .int x1), (4, .int w_9.1), (5, .long x_19), (7, .int w_9.2.2)] → W p l e rmX8_overflowIfLost s m ([.ref a_sh, .long x0, .int x1] : List Value).toArray below meth c H locs 0 0 (MQ below (qX8_overflowIfLost D cI cB a_sh a_ins a_mc a_me a_ps a_rg v_fault v_word x0 x1 A) ([.ref a_sh, .long x0, .int x1] : List Value).toArray s 0 0 A) (F0 m 57 ls [.int m_57]) := by
          intro m_57 em_57 H locs hP hD hS ls hl
          have zm_57_0 : m_57 = 0 ∨ m_57 = 1 := by rw [em_57]; (try dsimp only); (repeat' split) <;> first | exact Or.inl rfl | exact Or.inr rfl
          refine lv_istore (lv' := [(4, .int m_57), (0, .ref a_sh), (1, .long x0), (3, .int x1), (5, .long x_19), (7, .int w_9.2.2)]) hx hb dX8_overflowIfLost_57 hl (by decide) rfl (fun ls hl => ?_)
          obtain ⟨x_59, ex_59⟩ : ∃ z : Int32, z = w_9.2.2 + 1 := ⟨_, rfl⟩
          refine lv_iinc (v := x_59) (lv' := [(7, .int x_59), (4, .int m_57), (0, .ref a_sh), (1, .long x0), (3, .int x1), (5, .long x_19)]) hx hb dX8_overflowIfLost_59 hl (k := 5) rfl (by rw [ex_59]; rfl) (by decide) rfl (fun ls hl => ?_)
          refine lv_goto (tgt := 9) hx hb dX8_overflowIfLost_62 (by decide) ?_
          exact ih (m_57, x_19, x_59) (by subst ex_59; subst em_57; subst ex_19;  exact Nat.lt_of_lt_of_le (ms_up c_12) (Nat.le_of_lt_succ hm9)) (by rw [← hL9]; subst ex_59; subst em_57; subst ex_19; simp only [LX8_overflowIfLost_9, if_neg c_12]) _ _ hP hD hS ls (lv_sub hl [2, 3, 4, 1, 5, 0] rfl)
        refine lv_if_eq (tgt := 56) hx hb dX8_overflowIfLost_23 (by decide) (fun c_23 => ?_) (fun c_23 => ?_)
        · skip
          refine lv_iconst (v := 0) hx hb dX8_overflowIfLost_56 (by decide) ?_
          exact J_57 0 (by simp only [if_pos c_23]) _ _ hP hD hS ls (lv_sub hl [1, 2, 3, 4, 0, 5] rfl)
        · skip
          refine lv_lload hx hb dX8_overflowIfLost_26 (lv_at hl 0 rfl) ?_
          refine lv_lconst (v := 0) hx hb dX8_overflowIfLost_28 (by decide) ?_
          refine W.lcmp hx hb dX8_overflowIfLost_29 ?_
          have J_38 : ∀ (m_38 : Int32), m_38 = (if 0 ≤ (lg_cmp (x_19) (0)) then (0) else (1)) → ∀ (H : Heap) (locs : List Loc), va_P D vwCl (wX8_overflowIfLost cI cB a_sh a_ins a_mc a_me a_ps a_rg v_fault v_word) H → va_D A (wX8_overflowIfLost cI cB a_sh a_ins a_mc a_me a_ps a_rg v_fault v_word) → va_S A s.heap H locs → ∀ (ls : Array Slot), lv_has ls 8 [(0, .ref a_sh), (1, .long x0), (3, .int x1), (4, .int w_9.1), (5, .long x_19), (7, .int w_9.2.2)] → W p l e rmX8_overflowIfLost s m ([.ref a_sh, .long x0, .int x1] : List Value).toArray below meth c H locs 0 0 (MQ below (qX8_overflowIfLost D cI cB a_sh a_ins a_mc a_me a_ps a_rg v_fault v_word x0 x1 A) ([.ref a_sh, .long x0, .int x1] : List Value).toArray s 0 0 A) (F0 m 38 ls [.int m_38]) := by
            intro m_38 em_38 H locs hP hD hS ls hl
            have zm_38_0 : m_38 = 0 ∨ m_38 = 1 := by rw [em_38]; (try dsimp only); (repeat' split) <;> first | exact Or.inl rfl | exact Or.inr rfl
            refine lv_lload_n hx hb dX8_overflowIfLost_38 rfl (lv_at hl 1 rfl) ?_
            refine lv_lconst (v := 0) hx hb dX8_overflowIfLost_39 (by decide) ?_
            refine W.lcmp hx hb dX8_overflowIfLost_40 ?_
            have J_49 : ∀ (m_49 : Int32), m_49 = (if 0 ≤ (lg_cmp (x0) (0)) then (0) else (1)) → ∀ (H : Heap) (locs : List Loc), va_P D vwCl (wX8_overflowIfLost cI cB a_sh a_ins a_mc a_me a_ps a_rg v_fault v_word) H → va_D A (wX8_overflowIfLost cI cB a_sh a_ins a_mc a_me a_ps a_rg v_fault v_word) → va_S A s.heap H locs → ∀ (ls : Array Slot), lv_has ls 8 [(0, .ref a_sh), (1, .long x0), (3, .int x1), (4, .int w_9.1), (5, .long x_19), (7, .int w_9.2.2)] → W p l e rmX8_overflowIfLost s m ([.ref a_sh, .long x0, .int x1] : List Value).toArray below meth c H locs 0 0 (MQ below (qX8_overflowIfLost D cI cB a_sh a_ins a_mc a_me a_ps a_rg v_fault v_word x0 x1 A) ([.ref a_sh, .long x0, .int x1] : List Value).toArray s 0 0 A) (F0 m 49 ls [.int m_49, .int m_38]) := by
              intro m_49 em_49 H locs hP hD hS ls hl
              have zm_49_0 : m_49 = 0 ∨ m_49 = 1 := by rw [em_49]; (try dsimp only); (repeat' split) <;> first | exact Or.inl rfl | exact Or.inr rfl
              refine lv_icmp_ne (tgt := 56) hx hb dX8_overflowIfLost_49 (by decide) (fun c_49 => ?_) (fun c_49 => ?_)
              · skip
                refine lv_iconst (v := 0) hx hb dX8_overflowIfLost_56 (by decide) ?_
                exact J_57 0 (by subst em_49; subst em_38; simp only [if_neg c_23, if_neg c_49]) _ _ hP hD hS ls (lv_sub hl [0, 1, 2, 3, 4, 5] rfl)
              · skip
                refine lv_iconst (v := 1) hx hb dX8_overflowIfLost_52 (by decide) ?_
                refine lv_goto (tgt := 57) hx hb dX8_overflowIfLost_53 (by decide) ?_
                exact J_57 1 (by subst em_49; subst em_38; simp only [if_neg c_23, if_pos c_49]) _ _ hP hD hS ls (lv_sub hl [0, 1, 2, 3, 4, 5] rfl)
            refine lv_if_ge (tgt := 48) hx hb dX8_overflowIfLost_41 (by decide) (fun c_41 => ?_) (fun c_41 => ?_)
            · skip
              refine lv_iconst (v := 0) hx hb dX8_overflowIfLost_48 (by decide) ?_
              exact J_49 0 (by simp only [if_pos c_41]) _ _ hP hD hS ls (lv_sub hl [0, 1, 2, 3, 4, 5] rfl)
            · skip
              refine lv_iconst (v := 1) hx hb dX8_overflowIfLost_44 (by decide) ?_
              refine lv_goto (tgt := 49) hx hb dX8_overflowIfLost_45 (by decide) ?_
              exact J_49 1 (by simp only [if_neg c_41]) _ _ hP hD hS ls (lv_sub hl [0, 1, 2, 3, 4, 5] rfl)
          refine lv_if_ge (tgt := 37) hx hb dX8_overflowIfLost_30 (by decide) (fun c_30 => ?_) (fun c_30 => ?_)
          · skip
            refine lv_iconst (v := 0) hx hb dX8_overflowIfLost_37 (by decide) ?_
            exact J_38 0 (by simp only [if_pos c_30]) _ _ hP hD hS ls (lv_sub hl [1, 2, 3, 4, 0, 5] rfl)
          · skip
            refine lv_iconst (v := 1) hx hb dX8_overflowIfLost_33 (by decide) ?_
            refine lv_goto (tgt := 38) hx hb dX8_overflowIfLost_34 (by decide) ?_
            exact J_38 1 (by simp only [if_neg c_30]) _ _ hP hD hS ls (lv_sub hl [1, 2, 3, 4, 0, 5] rfl)
  exact lp_9 (msU x1 0 + 1) (1, x0, 0) (Nat.lt_succ_self _) eg_9.symm _ _ hP hD hS ls (lv_sub hl [3, 4, 5, 2, 1, 0] rfl)
theorem hdX8_overflowIfLost : yX8_overflowIfLost.cls = RX8 ∧ yX8_overflowIfLost.cls ≠ "java/lang/invoke/MethodHandle" ∧ yX8_overflowIfLost.cls ≠ "java/lang/invoke/VarHandle" ∧ (parseMethodDescriptor yX8_overflowIfLost.desc).map (fun d => d.parameters.length) = some 2 := by decide +kernel
noncomputable def fX8_shiftWordLeft (x0 : Int64) (x1 : Int32) (v_r : Int32) (v_fault : Int32) (v_word : Int64) (v_rF : (Nat → Int32)) : (Int32 × Int64 × (Nat → Int32)) :=
  let r_3 := fX8_shiftedKeepingSign x0 x1
  let u_10 := fX8_setWord (((r_3 >>> ((32 : Int32).toInt64 &&& 63)) : Int64).toInt32) v_r v_word v_rF
  let u_16 := fX8_overflowIfLost x0 x1 v_fault u_10.1
  (u_16.1, u_16.2, u_10.2)
abbrev wX8_shiftWordLeft (cI cB : ClassId) (a_sh a_ins a_mc a_me a_ps a_rg : Nat) (v_op : Int32) (v_i : Int32) (v_r : Int32) (v_s : Int32) (v_a : Int32) (v_b : Int32) (v_fault : Int32) (v_word : Int64) (v_rF : (Nat → Int32)) : va_W := [(a_sh, .inr (8, [.ref a_mc, .ref a_ins])), (a_ins, .inr (4, [.ref a_mc, .ref a_me, .int v_op, .int v_i, .int v_r, .int v_s, .int v_a, .int v_b])), (a_mc, .inr (5, [.ref a_me, .ref a_ps, .ref a_rg, .int v_fault])), (a_ps, .inr (7, [.long v_word])), (a_rg, .inl (cI, 16, .inl v_rF))]
abbrev rmX8_shiftWordLeft : Room := { frames := 3, cells := 0, slots := 0, locals := 70 }
abbrev qX8_shiftWordLeft (D : va_G) (cI cB : ClassId) (a_sh a_ins a_mc a_me a_ps a_rg : Nat) (v_op : Int32) (v_i : Int32) (v_r : Int32) (v_s : Int32) (v_a : Int32) (v_b : Int32) (v_fault : Int32) (v_word : Int64) (v_rF : (Nat → Int32)) (x0 : Int64) (x1 : Int32) : (Nat → Prop) → Array Value → State → Outcome → State → Prop := fun A9 => va_Qv (fun (u9 : (Int32 × Int64 × (Nat → Int32))) => u9 = fX8_shiftWordLeft x0 x1 v_r v_fault v_word v_rF) (fun u9 t9 => atW D (TYS cI cB) A9 (wX8_shiftWordLeft cI cB a_sh a_ins a_mc a_me a_ps a_rg v_op v_i v_r v_s v_a v_b u9.1 u9.2.1 u9.2.2) t9) A9
set_option maxHeartbeats 4000000 in
set_option maxRecDepth 100000 in
theorem kX8_shiftWordLeft (l : Launch) (D : va_G) (cI cB : ClassId) (a_sh a_ins a_mc a_me a_ps a_rg : Nat) (sz : Nat) (v_op : Int32) (v_i : Int32) (v_r : Int32) (v_s : Int32) (v_a : Int32) (v_b : Int32) (v_fault : Int32) (v_word : Int64) (v_rF : (Nat → Int32)) (x0 : Int64) (x1 : Int32) : MetW l yX8_shiftWordLeft (WK yX8_shiftWordLeft cX8_shiftWordLeft 4 none) rmX8_shiftWordLeft D (TYS cI cB) (wX8_shiftWordLeft cI cB a_sh a_ins a_mc a_me a_ps a_rg v_op v_i v_r v_s v_a v_b v_fault v_word v_rF) sz [.ref a_sh, .long x0, .int x1] (qX8_shiftWordLeft D cI cB a_sh a_ins a_mc a_me a_ps a_rg v_op v_i v_r v_s v_a v_b v_fault v_word v_rF x0 x1) 0 0 := by
  refine met_std (by decide) rfl (Nat.le_of_ble_eq_true rfl) ?_
  intro p e s m below meth c A ls H hx hb hr hml hown hts hlocks hA hP hK hD hS hNW hl
  have hl : lv_has ls 4 [(0, .ref a_sh), (1, .long x0), (3, .int x1)] := hl
  refine lv_aload_n hx hb dX8_shiftWordLeft_0 rfl (lv_at hl 0 rfl) ?_
  refine lv_lload_n hx hb dX8_shiftWordLeft_1 rfl (lv_at hl 1 rfl) ?_
  refine lv_iload_n hx hb dX8_shiftWordLeft_2 rfl (lv_at hl 2 rfl) ?_
  have hPc : va_P D vwCl (wX8_shiftedKeepingSign cI cB  ) H := hP.sub [] rfl
  have hDc : va_D A (wX8_shiftedKeepingSign cI cB  ) := hD.sub [] (by decide) rfl
  have hFc := va_free (wc := (wX8_shiftedKeepingSign cI cB  )) hD hS hA [] rfl
  refine va_calll (va_runS (As := [.long x0, .int x1]) (rest := [.ref a_sh]) ⟨hx, hb, hml, hown, hts⟩ (kX8_shiftedKeepingSign l D cI cB  H.size  x0 x1) (va_cwS 2 hts (gd_S wd_398 wd_399 wd_400 wd_393) rfl rfl rfl hdX8_shiftedKeepingSign.2 ⟨Nat.le_of_ble_eq_true rfl, Nat.le_of_ble_eq_true rfl⟩) (preS_std hPc hK hDc hNW) rfl rfl hl.1 rfl (lv_room (Nat.le_of_ble_eq_true rfl)) dX8_shiftWordLeft_3 ⟨Nat.zero_le _, Nat.zero_le _⟩) hS (fun q _ h => hFc q h) hFc (fun r_3 u_3 t9 H1 locs ht9 hvm9 hw9 hB9 hz9 hk9 hS => ?_)
  have er_3 : r_3 = fX8_shiftedKeepingSign x0 x1 := hw9
  obtain ⟨hP, hD⟩ := back_std (w1 := (wX8_shiftedKeepingSign cI cB  )) (w2 := (wX8_shiftWordLeft cI cB a_sh a_ins a_mc a_me a_ps a_rg v_op v_i v_r v_s v_a v_b v_fault v_word v_rF)) (wr := [(a_sh, .inr (8, [.ref a_mc, .ref a_ins])), (a_ins, .inr (4, [.ref a_mc, .ref a_me, .int v_op, .int v_i, .int v_r, .int v_s, .int v_a, .int v_b])), (a_mc, .inr (5, [.ref a_me, .ref a_ps, .ref a_rg, .int v_fault])), (a_ps, .inr (7, [.long v_word])), (a_rg, .inl (cI, 16, .inl v_rF))]) hP hD [] [0, 1, 2, 3, 4] [0, 1, 2, 3, 4] rfl rfl (by decide) (by decide) hk9 hFc hB9 ht9 (by decide) rfl
  clear hB9 hk9 hz9 hvm9 ht9 hFc hPc hDc
  generalize H1 = H at hP hS ⊢
  refine lv_bipush (v := 32) hx hb dX8_shiftWordLeft_6 (by decide) ?_
  refine lv_lshr hx hb dX8_shiftWordLeft_8 rfl ?_
  refine lv_l2i hx hb dX8_shiftWordLeft_9 rfl ?_
  have hPc : va_P D vwCl (wX8_setWord cI cB a_sh a_ins a_mc a_me a_ps a_rg v_op v_i v_r v_s v_a v_b v_fault v_word v_rF) H := hP.sub [0, 1, 2, 3, 4] rfl
  have hDc : va_D A (wX8_setWord cI cB a_sh a_ins a_mc a_me a_ps a_rg v_op v_i v_r v_s v_a v_b v_fault v_word v_rF) := hD.sub [0, 1, 2, 3, 4] (by decide) rfl
  have hFc := va_free (wc := (wX8_setWord cI cB a_sh a_ins a_mc a_me a_ps a_rg v_op v_i v_r v_s v_a v_b v_fault v_word v_rF)) hD hS hA [0, 1, 2, 3, 4] rfl
  refine va_callv (va_runV (As := [.int (((r_3 >>> ((32 : Int32).toInt64 &&& 63)) : Int64).toInt32)]) (rest := []) ⟨hx, hb, hml, hown, hts⟩ (kX8_setWord l D cI cB a_sh a_ins a_mc a_me a_ps a_rg H.size v_op v_i v_r v_s v_a v_b v_fault v_word v_rF (((r_3 >>> ((32 : Int32).toInt64 &&& 63)) : Int64).toInt32)) (cwV 1 hts (gd_V wd_401 wd_402 wd_403 wd_400 wd_390) rfl rfl rfl hdX8_setWord ⟨Nat.le_of_ble_eq_true rfl, Nat.le_of_ble_eq_true rfl⟩) (preV_std (ci := 8) (q0 := 0) hPc hK hDc hNW rfl rfl) rfl rfl hl.1 rfl (lv_room (Nat.le_of_ble_eq_true rfl)) dX8_shiftWordLeft_10 ⟨Nat.zero_le _, Nat.zero_le _⟩) hS (fun q _ h => hFc q h) hFc (fun u_10 t9 H1 locs ht9 hvm9 hw9 hB9 hz9 hk9 hS => ?_)
  have eu_10 : u_10 = fX8_setWord (((r_3 >>> ((32 : Int32).toInt64 &&& 63)) : Int64).toInt32) v_r v_word v_rF := hw9
  obtain ⟨hP, hD⟩ := back_std (w1 := (wX8_setWord cI cB a_sh a_ins a_mc a_me a_ps a_rg v_op v_i v_r v_s v_a v_b v_fault u_10.1 u_10.2)) (w2 := (wX8_shiftWordLeft cI cB a_sh a_ins a_mc a_me a_ps a_rg v_op v_i v_r v_s v_a v_b v_fault u_10.1 u_10.2)) (wr := []) hP hD [0, 1, 2, 3, 4] [] [0, 1, 2, 3, 4] rfl rfl (by decide) (by decide) hk9 hFc hB9 ht9 (by decide) rfl
  clear hB9 hk9 hz9 hvm9 ht9 hFc hPc hDc
  generalize H1 = H at hP hS ⊢
  refine lv_aload_n hx hb dX8_shiftWordLeft_13 rfl (lv_at hl 0 rfl) ?_
  refine lv_lload_n hx hb dX8_shiftWordLeft_14 rfl (lv_at hl 1 rfl) ?_
  refine lv_iload_n hx hb dX8_shiftWordLeft_15 rfl (lv_at hl 2 rfl) ?_
  have hPc : va_P D vwCl (wX8_overflowIfLost cI cB a_sh a_ins a_mc a_me a_ps a_rg v_fault u_10.1) H := hP.sub [0, 2, 3] rfl
  have hDc : va_D A (wX8_overflowIfLost cI cB a_sh a_ins a_mc a_me a_ps a_rg v_fault u_10.1) := hD.sub [0, 2, 3] (by decide) rfl
  have hFc := va_free (wc := (wX8_overflowIfLost cI cB a_sh a_ins a_mc a_me a_ps a_rg v_fault u_10.1)) hD hS hA [0, 2, 3] rfl
  refine va_callv (va_runV (As := [.long x0, .int x1]) (rest := []) ⟨hx, hb, hml, hown, hts⟩ (kX8_overflowIfLost l D cI cB a_sh a_ins a_mc a_me a_ps a_rg H.size v_fault u_10.1 x0 x1) (cwV 2 hts (gd_V wd_404 wd_405 wd_406 wd_400 wd_396) rfl rfl rfl hdX8_overflowIfLost ⟨Nat.le_of_ble_eq_true rfl, Nat.le_of_ble_eq_true rfl⟩) (preV_std (ci := 8) (q0 := 0) hPc hK hDc hNW rfl rfl) rfl rfl hl.1 rfl (lv_room (Nat.le_of_ble_eq_true rfl)) dX8_shiftWordLeft_16 ⟨Nat.zero_le _, Nat.zero_le _⟩) hS (fun q _ h => hFc q h) hFc (fun u_16 t9 H1 locs ht9 hvm9 hw9 hB9 hz9 hk9 hS => ?_)
  have eu_16 : u_16 = fX8_overflowIfLost x0 x1 v_fault u_10.1 := hw9
  obtain ⟨hP, hD⟩ := back_std (w1 := (wX8_overflowIfLost cI cB a_sh a_ins a_mc a_me a_ps a_rg u_16.1 u_16.2)) (w2 := (wX8_shiftWordLeft cI cB a_sh a_ins a_mc a_me a_ps a_rg v_op v_i v_r v_s v_a v_b u_16.1 u_16.2 u_10.2)) (wr := [(a_ins, .inr (4, [.ref a_mc, .ref a_me, .int v_op, .int v_i, .int v_r, .int v_s, .int v_a, .int v_b])), (a_rg, .inl (cI, 16, .inl u_10.2))]) hP hD [0, 2, 3] [1, 4] [2, 0, 3, 4, 1] rfl rfl (by decide) (by decide) hk9 hFc hB9 ht9 (by decide) rfl
  clear hB9 hk9 hz9 hvm9 ht9 hFc hPc hDc
  generalize H1 = H at hP hS ⊢
  have hf9 : (u_16.1, u_16.2, u_10.2) = fX8_shiftWordLeft x0 x1 v_r v_fault v_word v_rF := by simp only [fX8_shiftWordLeft, ← er_3, ← eu_10, ← eu_16]
  exact W.vret hx hb hr (fun t9 ht9 hW9 => ⟨⟨(u_16.1, u_16.2, u_10.2), rfl, hf9, ⟨by rw [ht9]; exact hP, va_K.moved hW9.alike hK, hD⟩⟩, hS.F ht9⟩) hS.2.2 dX8_shiftWordLeft_19
theorem hdX8_shiftWordLeft : yX8_shiftWordLeft.cls = RX8 ∧ yX8_shiftWordLeft.cls ≠ "java/lang/invoke/MethodHandle" ∧ yX8_shiftWordLeft.cls ≠ "java/lang/invoke/VarHandle" ∧ (parseMethodDescriptor yX8_shiftWordLeft.desc).map (fun d => d.parameters.length) = some 2 := by decide +kernel
noncomputable def fX8_shiftDoubleLeft (x0 : Int64) (x1 : Int32) (v_r : Int32) (v_fault : Int32) (v_word : Int64) (v_rF : (Nat → Int32)) : (Int32 × Int64 × (Nat → Int32)) :=
  let r_3 := fX8_shiftedKeepingSign x0 x1
  let u_6 := fX8_setDouble r_3 v_r v_word v_rF
  let u_12 := fX8_overflowIfLost x0 x1 v_fault u_6.1
  (u_12.1, u_12.2, u_6.2)
abbrev wX8_shiftDoubleLeft (cI cB : ClassId) (a_sh a_ins a_mc a_me a_ps a_rg : Nat) (v_op : Int32) (v_i : Int32) (v_r : Int32) (v_s : Int32) (v_a : Int32) (v_b : Int32) (v_fault : Int32) (v_word : Int64) (v_rF : (Nat → Int32)) : va_W := [(a_sh, .inr (8, [.ref a_mc, .ref a_ins])), (a_ins, .inr (4, [.ref a_mc, .ref a_me, .int v_op, .int v_i, .int v_r, .int v_s, .int v_a, .int v_b])), (a_mc, .inr (5, [.ref a_me, .ref a_ps, .ref a_rg, .int v_fault])), (a_ps, .inr (7, [.long v_word])), (a_rg, .inl (cI, 16, .inl v_rF))]
abbrev rmX8_shiftDoubleLeft : Room := { frames := 3, cells := 0, slots := 0, locals := 70 }
abbrev qX8_shiftDoubleLeft (D : va_G) (cI cB : ClassId) (a_sh a_ins a_mc a_me a_ps a_rg : Nat) (v_op : Int32) (v_i : Int32) (v_r : Int32) (v_s : Int32) (v_a : Int32) (v_b : Int32) (v_fault : Int32) (v_word : Int64) (v_rF : (Nat → Int32)) (x0 : Int64) (x1 : Int32) : (Nat → Prop) → Array Value → State → Outcome → State → Prop := fun A9 => va_Qv (fun (u9 : (Int32 × Int64 × (Nat → Int32))) => u9 = fX8_shiftDoubleLeft x0 x1 v_r v_fault v_word v_rF) (fun u9 t9 => atW D (TYS cI cB) A9 (wX8_shiftDoubleLeft cI cB a_sh a_ins a_mc a_me a_ps a_rg v_op v_i v_r v_s v_a v_b u9.1 u9.2.1 u9.2.2) t9) A9
set_option maxHeartbeats 4000000 in
set_option maxRecDepth 100000 in
theorem kX8_shiftDoubleLeft (l : Launch) (D : va_G) (cI cB : ClassId) (a_sh a_ins a_mc a_me a_ps a_rg : Nat) (sz : Nat) (v_op : Int32) (v_i : Int32) (v_r : Int32) (v_s : Int32) (v_a : Int32) (v_b : Int32) (v_fault : Int32) (v_word : Int64) (v_rF : (Nat → Int32)) (x0 : Int64) (x1 : Int32) : MetW l yX8_shiftDoubleLeft (WK yX8_shiftDoubleLeft cX8_shiftDoubleLeft 4 none) rmX8_shiftDoubleLeft D (TYS cI cB) (wX8_shiftDoubleLeft cI cB a_sh a_ins a_mc a_me a_ps a_rg v_op v_i v_r v_s v_a v_b v_fault v_word v_rF) sz [.ref a_sh, .long x0, .int x1] (qX8_shiftDoubleLeft D cI cB a_sh a_ins a_mc a_me a_ps a_rg v_op v_i v_r v_s v_a v_b v_fault v_word v_rF x0 x1) 0 0 := by
  refine met_std (by decide) rfl (Nat.le_of_ble_eq_true rfl) ?_
  intro p e s m below meth c A ls H hx hb hr hml hown hts hlocks hA hP hK hD hS hNW hl
  have hl : lv_has ls 4 [(0, .ref a_sh), (1, .long x0), (3, .int x1)] := hl
  refine lv_aload_n hx hb dX8_shiftDoubleLeft_0 rfl (lv_at hl 0 rfl) ?_
  refine lv_lload_n hx hb dX8_shiftDoubleLeft_1 rfl (lv_at hl 1 rfl) ?_
  refine lv_iload_n hx hb dX8_shiftDoubleLeft_2 rfl (lv_at hl 2 rfl) ?_
  have hPc : va_P D vwCl (wX8_shiftedKeepingSign cI cB  ) H := hP.sub [] rfl
  have hDc : va_D A (wX8_shiftedKeepingSign cI cB  ) := hD.sub [] (by decide) rfl
  have hFc := va_free (wc := (wX8_shiftedKeepingSign cI cB  )) hD hS hA [] rfl
  refine va_calll (va_runS (As := [.long x0, .int x1]) (rest := [.ref a_sh]) ⟨hx, hb, hml, hown, hts⟩ (kX8_shiftedKeepingSign l D cI cB  H.size  x0 x1) (va_cwS 2 hts (gd_S wd_398 wd_399 wd_400 wd_393) rfl rfl rfl hdX8_shiftedKeepingSign.2 ⟨Nat.le_of_ble_eq_true rfl, Nat.le_of_ble_eq_true rfl⟩) (preS_std hPc hK hDc hNW) rfl rfl hl.1 rfl (lv_room (Nat.le_of_ble_eq_true rfl)) dX8_shiftDoubleLeft_3 ⟨Nat.zero_le _, Nat.zero_le _⟩) hS (fun q _ h => hFc q h) hFc (fun r_3 u_3 t9 H1 locs ht9 hvm9 hw9 hB9 hz9 hk9 hS => ?_)
  have er_3 : r_3 = fX8_shiftedKeepingSign x0 x1 := hw9
  obtain ⟨hP, hD⟩ := back_std (w1 := (wX8_shiftedKeepingSign cI cB  )) (w2 := (wX8_shiftDoubleLeft cI cB a_sh a_ins a_mc a_me a_ps a_rg v_op v_i v_r v_s v_a v_b v_fault v_word v_rF)) (wr := [(a_sh, .inr (8, [.ref a_mc, .ref a_ins])), (a_ins, .inr (4, [.ref a_mc, .ref a_me, .int v_op, .int v_i, .int v_r, .int v_s, .int v_a, .int v_b])), (a_mc, .inr (5, [.ref a_me, .ref a_ps, .ref a_rg, .int v_fault])), (a_ps, .inr (7, [.long v_word])), (a_rg, .inl (cI, 16, .inl v_rF))]) hP hD [] [0, 1, 2, 3, 4] [0, 1, 2, 3, 4] rfl rfl (by decide) (by decide) hk9 hFc hB9 ht9 (by decide) rfl
  clear hB9 hk9 hz9 hvm9 ht9 hFc hPc hDc
  generalize H1 = H at hP hS ⊢
  have hPc : va_P D vwCl (wX8_setDouble cI cB a_sh a_ins a_mc a_me a_ps a_rg v_op v_i v_r v_s v_a v_b v_fault v_word v_rF) H := hP.sub [0, 1, 2, 3, 4] rfl
  have hDc : va_D A (wX8_setDouble cI cB a_sh a_ins a_mc a_me a_ps a_rg v_op v_i v_r v_s v_a v_b v_fault v_word v_rF) := hD.sub [0, 1, 2, 3, 4] (by decide) rfl
  have hFc := va_free (wc := (wX8_setDouble cI cB a_sh a_ins a_mc a_me a_ps a_rg v_op v_i v_r v_s v_a v_b v_fault v_word v_rF)) hD hS hA [0, 1, 2, 3, 4] rfl
  refine va_callv (va_runV (As := [.long r_3]) (rest := []) ⟨hx, hb, hml, hown, hts⟩ (kX8_setDouble l D cI cB a_sh a_ins a_mc a_me a_ps a_rg H.size v_op v_i v_r v_s v_a v_b v_fault v_word v_rF r_3) (cwV 1 hts (gd_V wd_418 wd_419 wd_420 wd_400 wd_417) rfl rfl rfl hdX8_setDouble ⟨Nat.le_of_ble_eq_true rfl, Nat.le_of_ble_eq_true rfl⟩) (preV_std (ci := 8) (q0 := 0) hPc hK hDc hNW rfl rfl) rfl rfl hl.1 rfl (lv_room (Nat.le_of_ble_eq_true rfl)) dX8_shiftDoubleLeft_6 ⟨Nat.zero_le _, Nat.zero_le _⟩) hS (fun q _ h => hFc q h) hFc (fun u_6 t9 H1 locs ht9 hvm9 hw9 hB9 hz9 hk9 hS => ?_)
  have eu_6 : u_6 = fX8_setDouble r_3 v_r v_word v_rF := hw9
  obtain ⟨hP, hD⟩ := back_std (w1 := (wX8_setDouble cI cB a_sh a_ins a_mc a_me a_ps a_rg v_op v_i v_r v_s v_a v_b v_fault u_6.1 u_6.2)) (w2 := (wX8_shiftDoubleLeft cI cB a_sh a_ins a_mc a_me a_ps a_rg v_op v_i v_r v_s v_a v_b v_fault u_6.1 u_6.2)) (wr := []) hP hD [0, 1, 2, 3, 4] [] [0, 1, 2, 3, 4] rfl rfl (by decide) (by decide) hk9 hFc hB9 ht9 (by decide) rfl
  clear hB9 hk9 hz9 hvm9 ht9 hFc hPc hDc
  generalize H1 = H at hP hS ⊢
  refine lv_aload_n hx hb dX8_shiftDoubleLeft_9 rfl (lv_at hl 0 rfl) ?_
  refine lv_lload_n hx hb dX8_shiftDoubleLeft_10 rfl (lv_at hl 1 rfl) ?_
  refine lv_iload_n hx hb dX8_shiftDoubleLeft_11 rfl (lv_at hl 2 rfl) ?_
  have hPc : va_P D vwCl (wX8_overflowIfLost cI cB a_sh a_ins a_mc a_me a_ps a_rg v_fault u_6.1) H := hP.sub [0, 2, 3] rfl
  have hDc : va_D A (wX8_overflowIfLost cI cB a_sh a_ins a_mc a_me a_ps a_rg v_fault u_6.1) := hD.sub [0, 2, 3] (by decide) rfl
  have hFc := va_free (wc := (wX8_overflowIfLost cI cB a_sh a_ins a_mc a_me a_ps a_rg v_fault u_6.1)) hD hS hA [0, 2, 3] rfl
  refine va_callv (va_runV (As := [.long x0, .int x1]) (rest := []) ⟨hx, hb, hml, hown, hts⟩ (kX8_overflowIfLost l D cI cB a_sh a_ins a_mc a_me a_ps a_rg H.size v_fault u_6.1 x0 x1) (cwV 2 hts (gd_V wd_404 wd_405 wd_406 wd_400 wd_396) rfl rfl rfl hdX8_overflowIfLost ⟨Nat.le_of_ble_eq_true rfl, Nat.le_of_ble_eq_true rfl⟩) (preV_std (ci := 8) (q0 := 0) hPc hK hDc hNW rfl rfl) rfl rfl hl.1 rfl (lv_room (Nat.le_of_ble_eq_true rfl)) dX8_shiftDoubleLeft_12 ⟨Nat.zero_le _, Nat.zero_le _⟩) hS (fun q _ h => hFc q h) hFc (fun u_12 t9 H1 locs ht9 hvm9 hw9 hB9 hz9 hk9 hS => ?_)
  have eu_12 : u_12 = fX8_overflowIfLost x0 x1 v_fault u_6.1 := hw9
  obtain ⟨hP, hD⟩ := back_std (w1 := (wX8_overflowIfLost cI cB a_sh a_ins a_mc a_me a_ps a_rg u_12.1 u_12.2)) (w2 := (wX8_shiftDoubleLeft cI cB a_sh a_ins a_mc a_me a_ps a_rg v_op v_i v_r v_s v_a v_b u_12.1 u_12.2 u_6.2)) (wr := [(a_ins, .inr (4, [.ref a_mc, .ref a_me, .int v_op, .int v_i, .int v_r, .int v_s, .int v_a, .int v_b])), (a_rg, .inl (cI, 16, .inl u_6.2))]) hP hD [0, 2, 3] [1, 4] [2, 0, 3, 4, 1] rfl rfl (by decide) (by decide) hk9 hFc hB9 ht9 (by decide) rfl
  clear hB9 hk9 hz9 hvm9 ht9 hFc hPc hDc
  generalize H1 = H at hP hS ⊢
  have hf9 : (u_12.1, u_12.2, u_6.2) = fX8_shiftDoubleLeft x0 x1 v_r v_fault v_word v_rF := by simp only [fX8_shiftDoubleLeft, ← er_3, ← eu_6, ← eu_12]
  exact W.vret hx hb hr (fun t9 ht9 hW9 => ⟨⟨(u_12.1, u_12.2, u_6.2), rfl, hf9, ⟨by rw [ht9]; exact hP, va_K.moved hW9.alike hK, hD⟩⟩, hS.F ht9⟩) hS.2.2 dX8_shiftDoubleLeft_15
theorem hdX8_shiftDoubleLeft : yX8_shiftDoubleLeft.cls = RX8 ∧ yX8_shiftDoubleLeft.cls ≠ "java/lang/invoke/MethodHandle" ∧ yX8_shiftDoubleLeft.cls ≠ "java/lang/invoke/VarHandle" ∧ (parseMethodDescriptor yX8_shiftDoubleLeft.desc).map (fun d => d.parameters.length) = some 2 := by decide +kernel
noncomputable def fX8_shiftWord (v_op : Int32) (v_r : Int32) (v_a : Int32) (v_fault : Int32) (v_word : Int64) (v_rF : (Nat → Int32)) : (Int32 × Int64 × (Nat → Int32)) :=
  let x_10 := (v_a &&& 63)
  let r_22 := fX5_reg v_r v_rF
  if v_op = 136 then (let u_80 := fX5_setReg v_r ((((((r_22 : Int32).toInt64 &&& 4294967295) : Int64).toUInt64 >>> ((x_10 : Int32).toInt64.toUInt64 &&& Int64.toUInt64 63)).toInt64 : Int64).toInt32) v_rF; (v_fault, v_word, u_80)) else (if v_op = 137 then (let u_102 := fX5_setReg v_r ((((r_22 : Int32).toInt64 <<< ((x_10 : Int32).toInt64 &&& 63)) : Int64).toInt32) v_rF; (v_fault, v_word, u_102)) else (if v_op = 138 then (let u_114 := fX8_setWord ((((r_22 : Int32).toInt64 >>> ((x_10 : Int32).toInt64 &&& 63)) : Int64).toInt32) v_r v_word v_rF; (v_fault, u_114.1, u_114.2)) else (let u_127 := fX8_shiftWordLeft ((r_22 : Int32).toInt64 <<< ((32 : Int32).toInt64 &&& 63)) x_10 v_r v_fault v_word v_rF; (u_127.1, u_127.2.1, u_127.2.2))))
abbrev wX8_shiftWord (cI cB : ClassId) (a_sh a_ins a_mc a_me a_ps a_rg : Nat) (v_op : Int32) (v_i : Int32) (v_r : Int32) (v_s : Int32) (v_a : Int32) (v_b : Int32) (v_fault : Int32) (v_word : Int64) (v_rF : (Nat → Int32)) : va_W := [(a_sh, .inr (8, [.ref a_mc, .ref a_ins])), (a_ins, .inr (4, [.ref a_mc, .ref a_me, .int v_op, .int v_i, .int v_r, .int v_s, .int v_a, .int v_b])), (a_mc, .inr (5, [.ref a_me, .ref a_ps, .ref a_rg, .int v_fault])), (a_ps, .inr (7, [.long v_word])), (a_rg, .inl (cI, 16, .inl v_rF))]
abbrev rmX8_shiftWord : Room := { frames := 4, cells := 0, slots := 0, locals := 93 }
abbrev qX8_shiftWord (D : va_G) (cI cB : ClassId) (a_sh a_ins a_mc a_me a_ps a_rg : Nat) (v_op : Int32) (v_i : Int32) (v_r : Int32) (v_s : Int32) (v_a : Int32) (v_b : Int32) (v_fault : Int32) (v_word : Int64) (v_rF : (Nat → Int32)) : (Nat → Prop) → Array Value → State → Outcome → State → Prop := fun A9 => va_Qv (fun (u9 : (Int32 × Int64 × (Nat → Int32))) => u9 = fX8_shiftWord v_op v_r v_a v_fault v_word v_rF) (fun u9 t9 => atW D (TYS cI cB) A9 (wX8_shiftWord cI cB a_sh a_ins a_mc a_me a_ps a_rg v_op v_i v_r v_s v_a v_b u9.1 u9.2.1 u9.2.2) t9) A9
set_option maxHeartbeats 4000000 in
set_option maxRecDepth 100000 in
theorem kX8_shiftWord (l : Launch) (D : va_G) (cI cB : ClassId) (a_sh a_ins a_mc a_me a_ps a_rg : Nat) (sz : Nat) (v_op : Int32) (v_i : Int32) (v_r : Int32) (v_s : Int32) (v_a : Int32) (v_b : Int32) (v_fault : Int32) (v_word : Int64) (v_rF : (Nat → Int32)) : MetW l yX8_shiftWord (WK yX8_shiftWord cX8_shiftWord 3 none) rmX8_shiftWord D (TYS cI cB) (wX8_shiftWord cI cB a_sh a_ins a_mc a_me a_ps a_rg v_op v_i v_r v_s v_a v_b v_fault v_word v_rF) sz [.ref a_sh] (qX8_shiftWord D cI cB a_sh a_ins a_mc a_me a_ps a_rg v_op v_i v_r v_s v_a v_b v_fault v_word v_rF) 0 0 := by
  refine met_std (by decide) rfl (Nat.le_of_ble_eq_true rfl) ?_
  intro p e s m below meth c A ls H hx hb hr hml hown hts hlocks hA hP hK hD hS hNW hl
  have hl : lv_has ls 3 [(0, .ref a_sh)] := hl
  have q_0 := hts _ (List.mem_cons_of_mem _ wd_389)
  have q_1 := hts _ (List.mem_cons_of_mem _ wd_388)
  have q_2 := hts _ (List.mem_cons_of_mem _ wd_408)
  have n_0 := hNW.f (A := ([.ref a_sh] : List Value).toArray) ("MainframeCore$Shifts", 19, "MainframeCore$Instruction", "a", "I", "MainframeCore") (by decide +kernel)
  have n_1 := hNW.f (A := ([.ref a_sh] : List Value).toArray) ("MainframeCore$Shifts", 25, "MainframeCore$Instruction", "\x72", "I", "MainframeCore") (by decide +kernel)
  have n_2 := hNW.f (A := ([.ref a_sh] : List Value).toArray) ("MainframeCore$Shifts", 34, "MainframeCore$Instruction", "operation", "I", "MainframeCore") (by decide +kernel)
  refine lv_aload_n hx hb dX8_shiftWord_0 rfl (lv_at hl 0 rfl) ?_
  refine va_get (D := D) (ci := 8) (v := .ref a_ins) (C := RX8) (T := TX8) (N := 2) hx hb hts in_X8 hown hK hP 0 rfl rfl 1 (by decide) q_0 (fun _ h9 => h9) rfl dX8_shiftWord_1 ?_
  refine va_getN (D := D) (ci := 4) (v := .int v_a) (C := RX4) (T := TX4) (N := 8) hx hb hts in_X4 hown hK hP 1 rfl rfl 6 (by decide) n_0 (fun _ h9 => h9) rfl dX8_shiftWord_4 ?_
  refine lv_bipush (v := 63) hx hb dX8_shiftWord_7 (by decide) ?_
  refine lv_iand hx hb dX8_shiftWord_9 ?_
  refine lv_topi (fun x_10 ex_10 => ?_)
  refine lv_istore_n (lv' := [(1, .int x_10), (0, .ref a_sh)]) hx hb dX8_shiftWord_10 rfl hl (by decide) rfl (fun ls hl => ?_)
  refine lv_aload_n hx hb dX8_shiftWord_11 rfl (lv_at hl 1 rfl) ?_
  refine va_get (D := D) (ci := 8) (v := .ref a_mc) (C := RX8) (T := TX8) (N := 2) hx hb hts in_X8 hown hK hP 0 rfl rfl 0 (by decide) q_1 (fun _ h9 => h9) rfl dX8_shiftWord_12 ?_
  refine lv_aload_n hx hb dX8_shiftWord_15 rfl (lv_at hl 1 rfl) ?_
  refine va_get (D := D) (ci := 8) (v := .ref a_ins) (C := RX8) (T := TX8) (N := 2) hx hb hts in_X8 hown hK hP 0 rfl rfl 1 (by decide) q_0 (fun _ h9 => h9) rfl dX8_shiftWord_16 ?_
  refine va_getN (D := D) (ci := 4) (v := .int v_r) (C := RX4) (T := TX4) (N := 8) hx hb hts in_X4 hown hK hP 1 rfl rfl 4 (by decide) n_1 (fun _ h9 => h9) rfl dX8_shiftWord_19 ?_
  have hPc : va_P D vwCl (wX5_reg cI cB a_mc a_me a_ps a_rg v_fault v_rF) H := hP.sub [2, 4] rfl
  have hDc : va_D A (wX5_reg cI cB a_mc a_me a_ps a_rg v_fault v_rF) := hD.sub [2, 4] (by decide) rfl
  have hFc := va_free (wc := (wX5_reg cI cB a_mc a_me a_ps a_rg v_fault v_rF)) hD hS hA [2, 4] rfl
  refine va_calli (va_runV (As := [.int v_r]) (rest := []) ⟨hx, hb, hml, hown, hts⟩ (kX5_reg l D cI cB a_mc a_me a_ps a_rg H.size v_fault v_rF v_r) (cwV 1 hts (gd_V wd_409 wd_31 wd_32 wd_24 wd_29) rfl rfl rfl hdX5_reg ⟨Nat.le_of_ble_eq_true rfl, Nat.le_of_ble_eq_true rfl⟩) (preV_std (ci := 5) (q0 := 0) hPc hK hDc hNW rfl rfl) rfl rfl hl.1 rfl (lv_room (Nat.le_of_ble_eq_true rfl)) dX8_shiftWord_22 ⟨Nat.zero_le _, Nat.zero_le _⟩) hS (fun q _ h => hFc q h) hFc (fun r_22 u_22 t9 H1 locs ht9 hvm9 hw9 hB9 hz9 hk9 hS => ?_)
  have er_22 : r_22 = fX5_reg v_r v_rF := hw9
  obtain ⟨hP, hD⟩ := back_std (w1 := (wX5_reg cI cB a_mc a_me a_ps a_rg v_fault v_rF)) (w2 := (wX8_shiftWord cI cB a_sh a_ins a_mc a_me a_ps a_rg v_op v_i v_r v_s v_a v_b v_fault v_word v_rF)) (wr := [(a_sh, .inr (8, [.ref a_mc, .ref a_ins])), (a_ins, .inr (4, [.ref a_mc, .ref a_me, .int v_op, .int v_i, .int v_r, .int v_s, .int v_a, .int v_b])), (a_ps, .inr (7, [.long v_word]))]) hP hD [2, 4] [0, 1, 3] [0, 1, 3, 2, 4] rfl rfl (by decide) (by decide) hk9 hFc hB9 ht9 (by decide) rfl
  clear hB9 hk9 hz9 hvm9 ht9 hFc hPc hDc
  generalize H1 = H at hP hS ⊢
  refine lv_istore_n (lv' := [(2, .int r_22), (1, .int x_10), (0, .ref a_sh)]) hx hb dX8_shiftWord_25 rfl hl (by decide) rfl (fun ls hl => ?_)
  refine lv_aload_n hx hb dX8_shiftWord_26 rfl (lv_at hl 2 rfl) ?_
  refine va_get (D := D) (ci := 8) (v := .ref a_ins) (C := RX8) (T := TX8) (N := 2) hx hb hts in_X8 hown hK hP 0 rfl rfl 1 (by decide) q_0 (fun _ h9 => h9) rfl dX8_shiftWord_27 ?_
  refine va_getN (D := D) (ci := 4) (v := .int v_op) (C := RX4) (T := TX4) (N := 8) hx hb hts in_X4 hown hK hP 1 rfl rfl 2 (by decide) n_2 (fun _ h9 => h9) rfl dX8_shiftWord_30 ?_
  by_cases c_33_0 : v_op = 136
  · skip
    refine lv_tableIn (tgt := 60) (off := 27) hx hb dX8_shiftWord_33 (by rw [c_33_0]; decide) (by rw [c_33_0]; decide) (by rw [c_33_0]; rfl) (by decide) ?_
    refine lv_aload_n hx hb dX8_shiftWord_60 rfl (lv_at hl 2 rfl) ?_
    refine va_get (D := D) (ci := 8) (v := .ref a_mc) (C := RX8) (T := TX8) (N := 2) hx hb hts in_X8 hown hK hP 0 rfl rfl 0 (by decide) q_1 (fun _ h9 => h9) rfl dX8_shiftWord_61 ?_
    refine lv_aload_n hx hb dX8_shiftWord_64 rfl (lv_at hl 2 rfl) ?_
    refine va_get (D := D) (ci := 8) (v := .ref a_ins) (C := RX8) (T := TX8) (N := 2) hx hb hts in_X8 hown hK hP 0 rfl rfl 1 (by decide) q_0 (fun _ h9 => h9) rfl dX8_shiftWord_65 ?_
    refine va_getN (D := D) (ci := 4) (v := .int v_r) (C := RX4) (T := TX4) (N := 8) hx hb hts in_X4 hown hK hP 1 rfl rfl 4 (by decide) n_1 (fun _ h9 => h9) rfl dX8_shiftWord_68 ?_
    refine lv_iload_n hx hb dX8_shiftWord_71 rfl (lv_at hl 0 rfl) ?_
    refine lv_i2l hx hb dX8_shiftWord_72 rfl ?_
    refine lv_ldc2 (v := 4294967295) hx hb hown q_2 dX8_shiftWord_73 ?_
    refine lv_land hx hb dX8_shiftWord_76 ?_
    refine lv_iload_n hx hb dX8_shiftWord_77 rfl (lv_at hl 1 rfl) ?_
    refine lv_lushr hx hb dX8_shiftWord_78 rfl ?_
    refine lv_l2i hx hb dX8_shiftWord_79 rfl ?_
    have hPc : va_P D vwCl (wX5_setReg cI cB a_mc a_me a_ps a_rg v_fault v_rF) H := hP.sub [2, 4] rfl
    have hDc : va_D A (wX5_setReg cI cB a_mc a_me a_ps a_rg v_fault v_rF) := hD.sub [2, 4] (by decide) rfl
    have hFc := va_free (wc := (wX5_setReg cI cB a_mc a_me a_ps a_rg v_fault v_rF)) hD hS hA [2, 4] rfl
    refine va_callv (va_runV (As := [.int v_r, .int ((((((r_22 : Int32).toInt64 &&& 4294967295) : Int64).toUInt64 >>> ((x_10 : Int32).toInt64.toUInt64 &&& Int64.toUInt64 63)).toInt64 : Int64).toInt32)]) (rest := []) ⟨hx, hb, hml, hown, hts⟩ (kX5_setReg l D cI cB a_mc a_me a_ps a_rg H.size v_fault v_rF v_r ((((((r_22 : Int32).toInt64 &&& 4294967295) : Int64).toUInt64 >>> ((x_10 : Int32).toInt64.toUInt64 &&& Int64.toUInt64 63)).toInt64 : Int64).toInt32)) (cwV 2 hts (gd_V wd_391 wd_22 wd_23 wd_24 wd_6) rfl rfl rfl hdX5_setReg ⟨Nat.le_of_ble_eq_true rfl, Nat.le_of_ble_eq_true rfl⟩) (preV_std (ci := 5) (q0 := 0) hPc hK hDc hNW rfl rfl) rfl rfl hl.1 rfl (lv_room (Nat.le_of_ble_eq_true rfl)) dX8_shiftWord_80 ⟨Nat.zero_le _, Nat.zero_le _⟩) hS (fun q _ h => hFc q h) hFc (fun u_80 t9 H1 locs ht9 hvm9 hw9 hB9 hz9 hk9 hS => ?_)
    have eu_80 : u_80 = fX5_setReg v_r ((((((r_22 : Int32).toInt64 &&& 4294967295) : Int64).toUInt64 >>> ((x_10 : Int32).toInt64.toUInt64 &&& Int64.toUInt64 63)).toInt64 : Int64).toInt32) v_rF := hw9
    obtain ⟨hP, hD⟩ := back_std (w1 := (wX5_setReg cI cB a_mc a_me a_ps a_rg v_fault u_80)) (w2 := (wX8_shiftWord cI cB a_sh a_ins a_mc a_me a_ps a_rg v_op v_i v_r v_s v_a v_b v_fault v_word u_80)) (wr := [(a_sh, .inr (8, [.ref a_mc, .ref a_ins])), (a_ins, .inr (4, [.ref a_mc, .ref a_me, .int v_op, .int v_i, .int v_r, .int v_s, .int v_a, .int v_b])), (a_ps, .inr (7, [.long v_word]))]) hP hD [2, 4] [0, 1, 3] [0, 1, 3, 2, 4] rfl rfl (by decide) (by decide) hk9 hFc hB9 ht9 (by decide) rfl
    clear hB9 hk9 hz9 hvm9 ht9 hFc hPc hDc
    generalize H1 = H at hP hS ⊢
    refine lv_goto (tgt := 130) hx hb dX8_shiftWord_83 (by decide) ?_
    have hf9 : (v_fault, v_word, u_80) = fX8_shiftWord v_op v_r v_a v_fault v_word v_rF := by subst ex_10; simp only [fX8_shiftWord, ← er_22, ← eu_80, if_pos c_33_0]
    exact W.vret hx hb hr (fun t9 ht9 hW9 => ⟨⟨(v_fault, v_word, u_80), rfl, hf9, ⟨by rw [ht9]; exact hP, va_K.moved hW9.alike hK, hD⟩⟩, hS.F ht9⟩) hS.2.2 dX8_shiftWord_130
  · skip
    by_cases c_33_1 : v_op = 137
    · skip
      refine lv_tableIn (tgt := 86) (off := 53) hx hb dX8_shiftWord_33 (by rw [c_33_1]; decide) (by rw [c_33_1]; decide) (by rw [c_33_1]; rfl) (by decide) ?_
      refine lv_aload_n hx hb dX8_shiftWord_86 rfl (lv_at hl 2 rfl) ?_
      refine va_get (D := D) (ci := 8) (v := .ref a_mc) (C := RX8) (T := TX8) (N := 2) hx hb hts in_X8 hown hK hP 0 rfl rfl 0 (by decide) q_1 (fun _ h9 => h9) rfl dX8_shiftWord_87 ?_
      refine lv_aload_n hx hb dX8_shiftWord_90 rfl (lv_at hl 2 rfl) ?_
      refine va_get (D := D) (ci := 8) (v := .ref a_ins) (C := RX8) (T := TX8) (N := 2) hx hb hts in_X8 hown hK hP 0 rfl rfl 1 (by decide) q_0 (fun _ h9 => h9) rfl dX8_shiftWord_91 ?_
      refine va_getN (D := D) (ci := 4) (v := .int v_r) (C := RX4) (T := TX4) (N := 8) hx hb hts in_X4 hown hK hP 1 rfl rfl 4 (by decide) n_1 (fun _ h9 => h9) rfl dX8_shiftWord_94 ?_
      refine lv_iload_n hx hb dX8_shiftWord_97 rfl (lv_at hl 0 rfl) ?_
      refine lv_i2l hx hb dX8_shiftWord_98 rfl ?_
      refine lv_iload_n hx hb dX8_shiftWord_99 rfl (lv_at hl 1 rfl) ?_
      refine lv_lshl hx hb dX8_shiftWord_100 rfl ?_
      refine lv_l2i hx hb dX8_shiftWord_101 rfl ?_
      have hPc : va_P D vwCl (wX5_setReg cI cB a_mc a_me a_ps a_rg v_fault v_rF) H := hP.sub [2, 4] rfl
      have hDc : va_D A (wX5_setReg cI cB a_mc a_me a_ps a_rg v_fault v_rF) := hD.sub [2, 4] (by decide) rfl
      have hFc := va_free (wc := (wX5_setReg cI cB a_mc a_me a_ps a_rg v_fault v_rF)) hD hS hA [2, 4] rfl
      refine va_callv (va_runV (As := [.int v_r, .int ((((r_22 : Int32).toInt64 <<< ((x_10 : Int32).toInt64 &&& 63)) : Int64).toInt32)]) (rest := []) ⟨hx, hb, hml, hown, hts⟩ (kX5_setReg l D cI cB a_mc a_me a_ps a_rg H.size v_fault v_rF v_r ((((r_22 : Int32).toInt64 <<< ((x_10 : Int32).toInt64 &&& 63)) : Int64).toInt32)) (cwV 2 hts (gd_V wd_391 wd_22 wd_23 wd_24 wd_6) rfl rfl rfl hdX5_setReg ⟨Nat.le_of_ble_eq_true rfl, Nat.le_of_ble_eq_true rfl⟩) (preV_std (ci := 5) (q0 := 0) hPc hK hDc hNW rfl rfl) rfl rfl hl.1 rfl (lv_room (Nat.le_of_ble_eq_true rfl)) dX8_shiftWord_102 ⟨Nat.zero_le _, Nat.zero_le _⟩) hS (fun q _ h => hFc q h) hFc (fun u_102 t9 H1 locs ht9 hvm9 hw9 hB9 hz9 hk9 hS => ?_)
      have eu_102 : u_102 = fX5_setReg v_r ((((r_22 : Int32).toInt64 <<< ((x_10 : Int32).toInt64 &&& 63)) : Int64).toInt32) v_rF := hw9
      obtain ⟨hP, hD⟩ := back_std (w1 := (wX5_setReg cI cB a_mc a_me a_ps a_rg v_fault u_102)) (w2 := (wX8_shiftWord cI cB a_sh a_ins a_mc a_me a_ps a_rg v_op v_i v_r v_s v_a v_b v_fault v_word u_102)) (wr := [(a_sh, .inr (8, [.ref a_mc, .ref a_ins])), (a_ins, .inr (4, [.ref a_mc, .ref a_me, .int v_op, .int v_i, .int v_r, .int v_s, .int v_a, .int v_b])), (a_ps, .inr (7, [.long v_word]))]) hP hD [2, 4] [0, 1, 3] [0, 1, 3, 2, 4] rfl rfl (by decide) (by decide) hk9 hFc hB9 ht9 (by decide) rfl
      clear hB9 hk9 hz9 hvm9 ht9 hFc hPc hDc
      generalize H1 = H at hP hS ⊢
      refine lv_goto (tgt := 130) hx hb dX8_shiftWord_105 (by decide) ?_
      have hf9 : (v_fault, v_word, u_102) = fX8_shiftWord v_op v_r v_a v_fault v_word v_rF := by subst ex_10; simp only [fX8_shiftWord, ← er_22, ← eu_102, if_neg c_33_0, if_pos c_33_1]
      exact W.vret hx hb hr (fun t9 ht9 hW9 => ⟨⟨(v_fault, v_word, u_102), rfl, hf9, ⟨by rw [ht9]; exact hP, va_K.moved hW9.alike hK, hD⟩⟩, hS.F ht9⟩) hS.2.2 dX8_shiftWord_130
    · skip
      by_cases c_33_2 : v_op = 138
      · skip
        refine lv_tableIn (tgt := 108) (off := 75) hx hb dX8_shiftWord_33 (by rw [c_33_2]; decide) (by rw [c_33_2]; decide) (by rw [c_33_2]; rfl) (by decide) ?_
        refine lv_aload_n hx hb dX8_shiftWord_108 rfl (lv_at hl 2 rfl) ?_
        refine lv_iload_n hx hb dX8_shiftWord_109 rfl (lv_at hl 0 rfl) ?_
        refine lv_i2l hx hb dX8_shiftWord_110 rfl ?_
        refine lv_iload_n hx hb dX8_shiftWord_111 rfl (lv_at hl 1 rfl) ?_
        refine lv_lshr hx hb dX8_shiftWord_112 rfl ?_
        refine lv_l2i hx hb dX8_shiftWord_113 rfl ?_
        have hPc : va_P D vwCl (wX8_setWord cI cB a_sh a_ins a_mc a_me a_ps a_rg v_op v_i v_r v_s v_a v_b v_fault v_word v_rF) H := hP.sub [0, 1, 2, 3, 4] rfl
        have hDc : va_D A (wX8_setWord cI cB a_sh a_ins a_mc a_me a_ps a_rg v_op v_i v_r v_s v_a v_b v_fault v_word v_rF) := hD.sub [0, 1, 2, 3, 4] (by decide) rfl
        have hFc := va_free (wc := (wX8_setWord cI cB a_sh a_ins a_mc a_me a_ps a_rg v_op v_i v_r v_s v_a v_b v_fault v_word v_rF)) hD hS hA [0, 1, 2, 3, 4] rfl
        refine va_callv (va_runV (As := [.int ((((r_22 : Int32).toInt64 >>> ((x_10 : Int32).toInt64 &&& 63)) : Int64).toInt32)]) (rest := []) ⟨hx, hb, hml, hown, hts⟩ (kX8_setWord l D cI cB a_sh a_ins a_mc a_me a_ps a_rg H.size v_op v_i v_r v_s v_a v_b v_fault v_word v_rF ((((r_22 : Int32).toInt64 >>> ((x_10 : Int32).toInt64 &&& 63)) : Int64).toInt32)) (cwV 1 hts (gd_V wd_401 wd_402 wd_403 wd_400 wd_390) rfl rfl rfl hdX8_setWord ⟨Nat.le_of_ble_eq_true rfl, Nat.le_of_ble_eq_true rfl⟩) (preV_std (ci := 8) (q0 := 0) hPc hK hDc hNW rfl rfl) rfl rfl hl.1 rfl (lv_room (Nat.le_of_ble_eq_true rfl)) dX8_shiftWord_114 ⟨Nat.zero_le _, Nat.zero_le _⟩) hS (fun q _ h => hFc q h) hFc (fun u_114 t9 H1 locs ht9 hvm9 hw9 hB9 hz9 hk9 hS => ?_)
        have eu_114 : u_114 = fX8_setWord ((((r_22 : Int32).toInt64 >>> ((x_10 : Int32).toInt64 &&& 63)) : Int64).toInt32) v_r v_word v_rF := hw9
        obtain ⟨hP, hD⟩ := back_std (w1 := (wX8_setWord cI cB a_sh a_ins a_mc a_me a_ps a_rg v_op v_i v_r v_s v_a v_b v_fault u_114.1 u_114.2)) (w2 := (wX8_shiftWord cI cB a_sh a_ins a_mc a_me a_ps a_rg v_op v_i v_r v_s v_a v_b v_fault u_114.1 u_114.2)) (wr := []) hP hD [0, 1, 2, 3, 4] [] [0, 1, 2, 3, 4] rfl rfl (by decide) (by decide) hk9 hFc hB9 ht9 (by decide) rfl
        clear hB9 hk9 hz9 hvm9 ht9 hFc hPc hDc
        generalize H1 = H at hP hS ⊢
        refine lv_goto (tgt := 130) hx hb dX8_shiftWord_117 (by decide) ?_
        have hf9 : (v_fault, u_114.1, u_114.2) = fX8_shiftWord v_op v_r v_a v_fault v_word v_rF := by subst ex_10; simp only [fX8_shiftWord, ← er_22, ← eu_114, if_neg c_33_0, if_neg c_33_1, if_pos c_33_2]
        exact W.vret hx hb hr (fun t9 ht9 hW9 => ⟨⟨(v_fault, u_114.1, u_114.2), rfl, hf9, ⟨by rw [ht9]; exact hP, va_K.moved hW9.alike hK, hD⟩⟩, hS.F ht9⟩) hS.2.2 dX8_shiftWord_130
      · skip
        refine sw_def (tgt := 120) hx hb [136, 137, 138] dX8_shiftWord_33 (by decide) (by decide) ?_ (by decide) ?_
        · intro v hv he
          simp only [List.mem_cons, List.not_mem_nil, or_false] at hv
          have hx9 : v_op = Int32.ofInt v := by rw [← he, Int32.ofInt_toInt]
          revert hx9
          rcases hv with rfl | rfl | rfl <;> intro hx9 <;> first | exact c_33_0 (by rw [hx9]; decide) | exact c_33_1 (by rw [hx9]; decide) | exact c_33_2 (by rw [hx9]; decide)
        · skip
          refine lv_aload_n hx hb dX8_shiftWord_120 rfl (lv_at hl 2 rfl) ?_
          refine lv_iload_n hx hb dX8_shiftWord_121 rfl (lv_at hl 0 rfl) ?_
          refine lv_i2l hx hb dX8_shiftWord_122 rfl ?_
          refine lv_bipush (v := 32) hx hb dX8_shiftWord_123 (by decide) ?_
          refine lv_lshl hx hb dX8_shiftWord_125 rfl ?_
          refine lv_iload_n hx hb dX8_shiftWord_126 rfl (lv_at hl 1 rfl) ?_
          have hPc : va_P D vwCl (wX8_shiftWordLeft cI cB a_sh a_ins a_mc a_me a_ps a_rg v_op v_i v_r v_s v_a v_b v_fault v_word v_rF) H := hP.sub [0, 1, 2, 3, 4] rfl
          have hDc : va_D A (wX8_shiftWordLeft cI cB a_sh a_ins a_mc a_me a_ps a_rg v_op v_i v_r v_s v_a v_b v_fault v_word v_rF) := hD.sub [0, 1, 2, 3, 4] (by decide) rfl
          have hFc := va_free (wc := (wX8_shiftWordLeft cI cB a_sh a_ins a_mc a_me a_ps a_rg v_op v_i v_r v_s v_a v_b v_fault v_word v_rF)) hD hS hA [0, 1, 2, 3, 4] rfl
          refine va_callv (va_runV (As := [.long (((r_22 : Int32).toInt64 <<< ((32 : Int32).toInt64 &&& 63))), .int x_10]) (rest := []) ⟨hx, hb, hml, hown, hts⟩ (kX8_shiftWordLeft l D cI cB a_sh a_ins a_mc a_me a_ps a_rg H.size v_op v_i v_r v_s v_a v_b v_fault v_word v_rF ((r_22 : Int32).toInt64 <<< ((32 : Int32).toInt64 &&& 63)) x_10) (cwV 2 hts (gd_V wd_410 wd_411 wd_412 wd_400 wd_407) rfl rfl rfl hdX8_shiftWordLeft ⟨Nat.le_of_ble_eq_true rfl, Nat.le_of_ble_eq_true rfl⟩) (preV_std (ci := 8) (q0 := 0) hPc hK hDc hNW rfl rfl) rfl rfl hl.1 rfl (lv_room (Nat.le_of_ble_eq_true rfl)) dX8_shiftWord_127 ⟨Nat.zero_le _, Nat.zero_le _⟩) hS (fun q _ h => hFc q h) hFc (fun u_127 t9 H1 locs ht9 hvm9 hw9 hB9 hz9 hk9 hS => ?_)
          have eu_127 : u_127 = fX8_shiftWordLeft ((r_22 : Int32).toInt64 <<< ((32 : Int32).toInt64 &&& 63)) x_10 v_r v_fault v_word v_rF := hw9
          obtain ⟨hP, hD⟩ := back_std (w1 := (wX8_shiftWordLeft cI cB a_sh a_ins a_mc a_me a_ps a_rg v_op v_i v_r v_s v_a v_b u_127.1 u_127.2.1 u_127.2.2)) (w2 := (wX8_shiftWord cI cB a_sh a_ins a_mc a_me a_ps a_rg v_op v_i v_r v_s v_a v_b u_127.1 u_127.2.1 u_127.2.2)) (wr := []) hP hD [0, 1, 2, 3, 4] [] [0, 1, 2, 3, 4] rfl rfl (by decide) (by decide) hk9 hFc hB9 ht9 (by decide) rfl
          clear hB9 hk9 hz9 hvm9 ht9 hFc hPc hDc
          generalize H1 = H at hP hS ⊢
          have hf9 : (u_127.1, u_127.2.1, u_127.2.2) = fX8_shiftWord v_op v_r v_a v_fault v_word v_rF := by subst ex_10; simp only [fX8_shiftWord, ← er_22, ← eu_127, if_neg c_33_0, if_neg c_33_1, if_neg c_33_2]
          exact W.vret hx hb hr (fun t9 ht9 hW9 => ⟨⟨(u_127.1, u_127.2.1, u_127.2.2), rfl, hf9, ⟨by rw [ht9]; exact hP, va_K.moved hW9.alike hK, hD⟩⟩, hS.F ht9⟩) hS.2.2 dX8_shiftWord_130
theorem hdX8_shiftWord : yX8_shiftWord.cls = RX8 ∧ yX8_shiftWord.cls ≠ "java/lang/invoke/MethodHandle" ∧ yX8_shiftWord.cls ≠ "java/lang/invoke/VarHandle" ∧ (parseMethodDescriptor yX8_shiftWord.desc).map (fun d => d.parameters.length) = some 0 := by decide +kernel
noncomputable def fX8_shiftDouble (v_op : Int32) (v_r : Int32) (v_a : Int32) (v_fault : Int32) (v_word : Int64) (v_rF : (Nat → Int32)) : (Int32 × Int64 × (Nat → Int32)) :=
  let u_11 := fX5_demandEven v_r v_fault
  let r_18 := fX5_fine u_11
  if r_18 = 0 then ((u_11, v_word, v_rF)) else (let x_35 := (v_a &&& 63); let r_47 := fX5_pair v_r v_rF; if v_op = 140 then (let u_98 := fX5_setPair v_r (((r_47 : Int64).toUInt64 >>> ((x_35 : Int32).toInt64.toUInt64 &&& Int64.toUInt64 63)).toInt64) v_rF; (u_11, v_word, u_98)) else (if v_op = 141 then (let u_118 := fX5_setPair v_r (r_47 <<< ((x_35 : Int32).toInt64 &&& 63)) v_rF; (u_11, v_word, u_118)) else (if v_op = 142 then (let u_128 := fX8_setDouble (r_47 >>> ((x_35 : Int32).toInt64 &&& 63)) v_r v_word v_rF; (u_11, u_128.1, u_128.2)) else (let u_137 := fX8_shiftDoubleLeft r_47 x_35 v_r u_11 v_word v_rF; (u_137.1, u_137.2.1, u_137.2.2)))))
abbrev wX8_shiftDouble (cI cB : ClassId) (a_sh a_ins a_mc a_me a_ps a_rg : Nat) (v_op : Int32) (v_i : Int32) (v_r : Int32) (v_s : Int32) (v_a : Int32) (v_b : Int32) (v_fault : Int32) (v_word : Int64) (v_rF : (Nat → Int32)) : va_W := [(a_sh, .inr (8, [.ref a_mc, .ref a_ins])), (a_ins, .inr (4, [.ref a_mc, .ref a_me, .int v_op, .int v_i, .int v_r, .int v_s, .int v_a, .int v_b])), (a_mc, .inr (5, [.ref a_me, .ref a_ps, .ref a_rg, .int v_fault])), (a_ps, .inr (7, [.long v_word])), (a_rg, .inl (cI, 16, .inl v_rF))]
abbrev rmX8_shiftDouble : Room := { frames := 4, cells := 0, slots := 0, locals := 93 }
abbrev qX8_shiftDouble (D : va_G) (cI cB : ClassId) (a_sh a_ins a_mc a_me a_ps a_rg : Nat) (v_op : Int32) (v_i : Int32) (v_r : Int32) (v_s : Int32) (v_a : Int32) (v_b : Int32) (v_fault : Int32) (v_word : Int64) (v_rF : (Nat → Int32)) : (Nat → Prop) → Array Value → State → Outcome → State → Prop := fun A9 => va_Qv (fun (u9 : (Int32 × Int64 × (Nat → Int32))) => u9 = fX8_shiftDouble v_op v_r v_a v_fault v_word v_rF) (fun u9 t9 => atW D (TYS cI cB) A9 (wX8_shiftDouble cI cB a_sh a_ins a_mc a_me a_ps a_rg v_op v_i v_r v_s v_a v_b u9.1 u9.2.1 u9.2.2) t9) A9
set_option maxHeartbeats 4000000 in
set_option maxRecDepth 100000 in
theorem kX8_shiftDouble (l : Launch) (D : va_G) (cI cB : ClassId) (a_sh a_ins a_mc a_me a_ps a_rg : Nat) (sz : Nat) (v_op : Int32) (v_i : Int32) (v_r : Int32) (v_s : Int32) (v_a : Int32) (v_b : Int32) (v_fault : Int32) (v_word : Int64) (v_rF : (Nat → Int32)) : MetW l yX8_shiftDouble (WK yX8_shiftDouble cX8_shiftDouble 4 none) rmX8_shiftDouble D (TYS cI cB) (wX8_shiftDouble cI cB a_sh a_ins a_mc a_me a_ps a_rg v_op v_i v_r v_s v_a v_b v_fault v_word v_rF) sz [.ref a_sh] (qX8_shiftDouble D cI cB a_sh a_ins a_mc a_me a_ps a_rg v_op v_i v_r v_s v_a v_b v_fault v_word v_rF) 0 0 := by
  refine met_std (by decide) rfl (Nat.le_of_ble_eq_true rfl) ?_
  intro p e s m below meth c A ls H hx hb hr hml hown hts hlocks hA hP hK hD hS hNW hl
  have hl : lv_has ls 4 [(0, .ref a_sh)] := hl
  have q_0 := hts _ (List.mem_cons_of_mem _ wd_388)
  have q_1 := hts _ (List.mem_cons_of_mem _ wd_389)
  have n_0 := hNW.f (A := ([.ref a_sh] : List Value).toArray) ("MainframeCore$Shifts", 25, "MainframeCore$Instruction", "\x72", "I", "MainframeCore") (by decide +kernel)
  have n_1 := hNW.f (A := ([.ref a_sh] : List Value).toArray) ("MainframeCore$Shifts", 19, "MainframeCore$Instruction", "a", "I", "MainframeCore") (by decide +kernel)
  have n_2 := hNW.f (A := ([.ref a_sh] : List Value).toArray) ("MainframeCore$Shifts", 34, "MainframeCore$Instruction", "operation", "I", "MainframeCore") (by decide +kernel)
  refine lv_aload_n hx hb dX8_shiftDouble_0 rfl (lv_at hl 0 rfl) ?_
  refine va_get (D := D) (ci := 8) (v := .ref a_mc) (C := RX8) (T := TX8) (N := 2) hx hb hts in_X8 hown hK hP 0 rfl rfl 0 (by decide) q_0 (fun _ h9 => h9) rfl dX8_shiftDouble_1 ?_
  refine lv_aload_n hx hb dX8_shiftDouble_4 rfl (lv_at hl 0 rfl) ?_
  refine va_get (D := D) (ci := 8) (v := .ref a_ins) (C := RX8) (T := TX8) (N := 2) hx hb hts in_X8 hown hK hP 0 rfl rfl 1 (by decide) q_1 (fun _ h9 => h9) rfl dX8_shiftDouble_5 ?_
  refine va_getN (D := D) (ci := 4) (v := .int v_r) (C := RX4) (T := TX4) (N := 8) hx hb hts in_X4 hown hK hP 1 rfl rfl 4 (by decide) n_0 (fun _ h9 => h9) rfl dX8_shiftDouble_8 ?_
  have hPc : va_P D vwCl (wX5_demandEven cI cB a_mc a_me a_ps a_rg v_fault) H := hP.sub [2] rfl
  have hDc : va_D A (wX5_demandEven cI cB a_mc a_me a_ps a_rg v_fault) := hD.sub [2] (by decide) rfl
  have hFc := va_free (wc := (wX5_demandEven cI cB a_mc a_me a_ps a_rg v_fault)) hD hS hA [2] rfl
  refine va_callv (va_runV (As := [.int v_r]) (rest := []) ⟨hx, hb, hml, hown, hts⟩ (kX5_demandEven l D cI cB a_mc a_me a_ps a_rg H.size v_fault v_r) (cwV 1 hts (gd_V wd_422 wd_423 wd_424 wd_24 wd_375) rfl rfl rfl hdX5_demandEven ⟨Nat.le_of_ble_eq_true rfl, Nat.le_of_ble_eq_true rfl⟩) (preV_std (ci := 5) (q0 := 0) hPc hK hDc hNW rfl rfl) rfl rfl hl.1 rfl (lv_room (Nat.le_of_ble_eq_true rfl)) dX8_shiftDouble_11 ⟨Nat.zero_le _, Nat.zero_le _⟩) hS (fun q _ h => hFc q h) hFc (fun u_11 t9 H1 locs ht9 hvm9 hw9 hB9 hz9 hk9 hS => ?_)
  have eu_11 : u_11 = fX5_demandEven v_r v_fault := hw9
  obtain ⟨hP, hD⟩ := back_std (w1 := (wX5_demandEven cI cB a_mc a_me a_ps a_rg u_11)) (w2 := (wX8_shiftDouble cI cB a_sh a_ins a_mc a_me a_ps a_rg v_op v_i v_r v_s v_a v_b u_11 v_word v_rF)) (wr := [(a_sh, .inr (8, [.ref a_mc, .ref a_ins])), (a_ins, .inr (4, [.ref a_mc, .ref a_me, .int v_op, .int v_i, .int v_r, .int v_s, .int v_a, .int v_b])), (a_ps, .inr (7, [.long v_word])), (a_rg, .inl (cI, 16, .inl v_rF))]) hP hD [2] [0, 1, 3, 4] [0, 1, 4, 2, 3] rfl rfl (by decide) (by decide) hk9 hFc hB9 ht9 (by decide) rfl
  clear hB9 hk9 hz9 hvm9 ht9 hFc hPc hDc
  generalize H1 = H at hP hS ⊢
  refine lv_aload_n hx hb dX8_shiftDouble_14 rfl (lv_at hl 0 rfl) ?_
  refine va_get (D := D) (ci := 8) (v := .ref a_mc) (C := RX8) (T := TX8) (N := 2) hx hb hts in_X8 hown hK hP 0 rfl rfl 0 (by decide) q_0 (fun _ h9 => h9) rfl dX8_shiftDouble_15 ?_
  have hPc : va_P D vwCl (wX5_fine cI cB a_mc a_me a_ps a_rg u_11) H := hP.sub [2] rfl
  have hDc : va_D A (wX5_fine cI cB a_mc a_me a_ps a_rg u_11) := hD.sub [2] (by decide) rfl
  have hFc := va_free (wc := (wX5_fine cI cB a_mc a_me a_ps a_rg u_11)) hD hS hA [2] rfl
  refine va_calli (va_runV (As := []) (rest := []) ⟨hx, hb, hml, hown, hts⟩ (kX5_fine l D cI cB a_mc a_me a_ps a_rg H.size u_11 ) (cwV 0 hts (gd_V wd_425 wd_73 wd_74 wd_24 wd_66) rfl rfl rfl hdX5_fine ⟨Nat.le_of_ble_eq_true rfl, Nat.le_of_ble_eq_true rfl⟩) (preV_std (ci := 5) (q0 := 0) hPc hK hDc hNW rfl rfl) rfl rfl hl.1 rfl (lv_room (Nat.le_of_ble_eq_true rfl)) dX8_shiftDouble_18 ⟨Nat.zero_le _, Nat.zero_le _⟩) hS (fun q _ h => hFc q h) hFc (fun r_18 u_18 t9 H1 locs ht9 hvm9 hw9 hB9 hz9 hk9 hS => ?_)
  have er_18 : r_18 = fX5_fine u_11 := hw9
  have zr_18 : r_18 = 0 ∨ r_18 = 1 := by rw [er_18]; exact zX5_fine _
  obtain ⟨hP, hD⟩ := back_std (w1 := (wX5_fine cI cB a_mc a_me a_ps a_rg u_11)) (w2 := (wX8_shiftDouble cI cB a_sh a_ins a_mc a_me a_ps a_rg v_op v_i v_r v_s v_a v_b u_11 v_word v_rF)) (wr := [(a_sh, .inr (8, [.ref a_mc, .ref a_ins])), (a_ins, .inr (4, [.ref a_mc, .ref a_me, .int v_op, .int v_i, .int v_r, .int v_s, .int v_a, .int v_b])), (a_ps, .inr (7, [.long v_word])), (a_rg, .inl (cI, 16, .inl v_rF))]) hP hD [2] [0, 1, 3, 4] [0, 1, 4, 2, 3] rfl rfl (by decide) (by decide) hk9 hFc hB9 ht9 (by decide) rfl
  clear hB9 hk9 hz9 hvm9 ht9 hFc hPc hDc
  generalize H1 = H at hP hS ⊢
  refine lv_if_ne (tgt := 25) hx hb dX8_shiftDouble_21 (by decide) (fun c_21 => ?_) (fun c_21 => ?_)
  · skip
    refine lv_aload_n hx hb dX8_shiftDouble_25 rfl (lv_at hl 0 rfl) ?_
    refine va_get (D := D) (ci := 8) (v := .ref a_ins) (C := RX8) (T := TX8) (N := 2) hx hb hts in_X8 hown hK hP 0 rfl rfl 1 (by decide) q_1 (fun _ h9 => h9) rfl dX8_shiftDouble_26 ?_
    refine va_getN (D := D) (ci := 4) (v := .int v_a) (C := RX4) (T := TX4) (N := 8) hx hb hts in_X4 hown hK hP 1 rfl rfl 6 (by decide) n_1 (fun _ h9 => h9) rfl dX8_shiftDouble_29 ?_
    refine lv_bipush (v := 63) hx hb dX8_shiftDouble_32 (by decide) ?_
    refine lv_iand hx hb dX8_shiftDouble_34 ?_
    refine lv_topi (fun x_35 ex_35 => ?_)
    refine lv_istore_n (lv' := [(1, .int x_35), (0, .ref a_sh)]) hx hb dX8_shiftDouble_35 rfl hl (by decide) rfl (fun ls hl => ?_)
    refine lv_aload_n hx hb dX8_shiftDouble_36 rfl (lv_at hl 1 rfl) ?_
    refine va_get (D := D) (ci := 8) (v := .ref a_mc) (C := RX8) (T := TX8) (N := 2) hx hb hts in_X8 hown hK hP 0 rfl rfl 0 (by decide) q_0 (fun _ h9 => h9) rfl dX8_shiftDouble_37 ?_
    refine lv_aload_n hx hb dX8_shiftDouble_40 rfl (lv_at hl 1 rfl) ?_
    refine va_get (D := D) (ci := 8) (v := .ref a_ins) (C := RX8) (T := TX8) (N := 2) hx hb hts in_X8 hown hK hP 0 rfl rfl 1 (by decide) q_1 (fun _ h9 => h9) rfl dX8_shiftDouble_41 ?_
    refine va_getN (D := D) (ci := 4) (v := .int v_r) (C := RX4) (T := TX4) (N := 8) hx hb hts in_X4 hown hK hP 1 rfl rfl 4 (by decide) n_0 (fun _ h9 => h9) rfl dX8_shiftDouble_44 ?_
    have hPc : va_P D vwCl (wX5_pair cI cB a_mc a_me a_ps a_rg u_11 v_rF) H := hP.sub [2, 4] rfl
    have hDc : va_D A (wX5_pair cI cB a_mc a_me a_ps a_rg u_11 v_rF) := hD.sub [2, 4] (by decide) rfl
    have hFc := va_free (wc := (wX5_pair cI cB a_mc a_me a_ps a_rg u_11 v_rF)) hD hS hA [2, 4] rfl
    refine va_calll (va_runV (As := [.int v_r]) (rest := []) ⟨hx, hb, hml, hown, hts⟩ (kX5_pair l D cI cB a_mc a_me a_ps a_rg H.size u_11 v_rF v_r) (cwV 1 hts (gd_V wd_426 wd_427 wd_428 wd_24 wd_372) rfl rfl rfl hdX5_pair ⟨Nat.le_of_ble_eq_true rfl, Nat.le_of_ble_eq_true rfl⟩) (preV_std (ci := 5) (q0 := 0) hPc hK hDc hNW rfl rfl) rfl rfl hl.1 rfl (lv_room (Nat.le_of_ble_eq_true rfl)) dX8_shiftDouble_47 ⟨Nat.zero_le _, Nat.zero_le _⟩) hS (fun q _ h => hFc q h) hFc (fun r_47 u_47 t9 H1 locs ht9 hvm9 hw9 hB9 hz9 hk9 hS => ?_)
    have er_47 : r_47 = fX5_pair v_r v_rF := hw9
    obtain ⟨hP, hD⟩ := back_std (w1 := (wX5_pair cI cB a_mc a_me a_ps a_rg u_11 v_rF)) (w2 := (wX8_shiftDouble cI cB a_sh a_ins a_mc a_me a_ps a_rg v_op v_i v_r v_s v_a v_b u_11 v_word v_rF)) (wr := [(a_sh, .inr (8, [.ref a_mc, .ref a_ins])), (a_ins, .inr (4, [.ref a_mc, .ref a_me, .int v_op, .int v_i, .int v_r, .int v_s, .int v_a, .int v_b])), (a_ps, .inr (7, [.long v_word]))]) hP hD [2, 4] [0, 1, 3] [0, 1, 3, 2, 4] rfl rfl (by decide) (by decide) hk9 hFc hB9 ht9 (by decide) rfl
    clear hB9 hk9 hz9 hvm9 ht9 hFc hPc hDc
    generalize H1 = H at hP hS ⊢
    refine lv_lstore_n (lv' := [(2, .long r_47), (1, .int x_35), (0, .ref a_sh)]) hx hb dX8_shiftDouble_50 rfl hl (by decide) rfl (fun ls hl => ?_)
    refine lv_aload_n hx hb dX8_shiftDouble_51 rfl (lv_at hl 2 rfl) ?_
    refine va_get (D := D) (ci := 8) (v := .ref a_ins) (C := RX8) (T := TX8) (N := 2) hx hb hts in_X8 hown hK hP 0 rfl rfl 1 (by decide) q_1 (fun _ h9 => h9) rfl dX8_shiftDouble_52 ?_
    refine va_getN (D := D) (ci := 4) (v := .int v_op) (C := RX4) (T := TX4) (N := 8) hx hb hts in_X4 hown hK hP 1 rfl rfl 2 (by decide) n_2 (fun _ h9 => h9) rfl dX8_shiftDouble_55 ?_
    by_cases c_58_0 : v_op = 140
    · skip
      refine lv_tableIn (tgt := 84) (off := 26) hx hb dX8_shiftDouble_58 (by rw [c_58_0]; decide) (by rw [c_58_0]; decide) (by rw [c_58_0]; rfl) (by decide) ?_
      refine lv_aload_n hx hb dX8_shiftDouble_84 rfl (lv_at hl 2 rfl) ?_
      refine va_get (D := D) (ci := 8) (v := .ref a_mc) (C := RX8) (T := TX8) (N := 2) hx hb hts in_X8 hown hK hP 0 rfl rfl 0 (by decide) q_0 (fun _ h9 => h9) rfl dX8_shiftDouble_85 ?_
      refine lv_aload_n hx hb dX8_shiftDouble_88 rfl (lv_at hl 2 rfl) ?_
      refine va_get (D := D) (ci := 8) (v := .ref a_ins) (C := RX8) (T := TX8) (N := 2) hx hb hts in_X8 hown hK hP 0 rfl rfl 1 (by decide) q_1 (fun _ h9 => h9) rfl dX8_shiftDouble_89 ?_
      refine va_getN (D := D) (ci := 4) (v := .int v_r) (C := RX4) (T := TX4) (N := 8) hx hb hts in_X4 hown hK hP 1 rfl rfl 4 (by decide) n_0 (fun _ h9 => h9) rfl dX8_shiftDouble_92 ?_
      refine lv_lload_n hx hb dX8_shiftDouble_95 rfl (lv_at hl 0 rfl) ?_
      refine lv_iload_n hx hb dX8_shiftDouble_96 rfl (lv_at hl 1 rfl) ?_
      refine lv_lushr hx hb dX8_shiftDouble_97 rfl ?_
      have hPc : va_P D vwCl (wX5_setPair cI cB a_mc a_me a_ps a_rg u_11 v_rF) H := hP.sub [2, 4] rfl
      have hDc : va_D A (wX5_setPair cI cB a_mc a_me a_ps a_rg u_11 v_rF) := hD.sub [2, 4] (by decide) rfl
      have hFc := va_free (wc := (wX5_setPair cI cB a_mc a_me a_ps a_rg u_11 v_rF)) hD hS hA [2, 4] rfl
      refine va_callv (va_runV (As := [.int v_r, .long (((r_47 : Int64).toUInt64 >>> ((x_35 : Int32).toInt64.toUInt64 &&& Int64.toUInt64 63)).toInt64)]) (rest := []) ⟨hx, hb, hml, hown, hts⟩ (kX5_setPair l D cI cB a_mc a_me a_ps a_rg H.size u_11 v_rF v_r (((r_47 : Int64).toUInt64 >>> ((x_35 : Int32).toInt64.toUInt64 &&& Int64.toUInt64 63)).toInt64)) (cwV 2 hts (gd_V wd_414 wd_415 wd_416 wd_24 wd_374) rfl rfl rfl hdX5_setPair ⟨Nat.le_of_ble_eq_true rfl, Nat.le_of_ble_eq_true rfl⟩) (preV_std (ci := 5) (q0 := 0) hPc hK hDc hNW rfl rfl) rfl rfl hl.1 rfl (lv_room (Nat.le_of_ble_eq_true rfl)) dX8_shiftDouble_98 ⟨Nat.zero_le _, Nat.zero_le _⟩) hS (fun q _ h => hFc q h) hFc (fun u_98 t9 H1 locs ht9 hvm9 hw9 hB9 hz9 hk9 hS => ?_)
      have eu_98 : u_98 = fX5_setPair v_r (((r_47 : Int64).toUInt64 >>> ((x_35 : Int32).toInt64.toUInt64 &&& Int64.toUInt64 63)).toInt64) v_rF := hw9
      obtain ⟨hP, hD⟩ := back_std (w1 := (wX5_setPair cI cB a_mc a_me a_ps a_rg u_11 u_98)) (w2 := (wX8_shiftDouble cI cB a_sh a_ins a_mc a_me a_ps a_rg v_op v_i v_r v_s v_a v_b u_11 v_word u_98)) (wr := [(a_sh, .inr (8, [.ref a_mc, .ref a_ins])), (a_ins, .inr (4, [.ref a_mc, .ref a_me, .int v_op, .int v_i, .int v_r, .int v_s, .int v_a, .int v_b])), (a_ps, .inr (7, [.long v_word]))]) hP hD [2, 4] [0, 1, 3] [0, 1, 3, 2, 4] rfl rfl (by decide) (by decide) hk9 hFc hB9 ht9 (by decide) rfl
      clear hB9 hk9 hz9 hvm9 ht9 hFc hPc hDc
      generalize H1 = H at hP hS ⊢
      refine lv_goto (tgt := 140) hx hb dX8_shiftDouble_101 (by decide) ?_
      have hf9 : (u_11, v_word, u_98) = fX8_shiftDouble v_op v_r v_a v_fault v_word v_rF := by subst ex_35; simp only [fX8_shiftDouble, ← eu_11, ← er_18, ← er_47, ← eu_98, if_neg c_21, if_pos c_58_0]
      exact W.vret hx hb hr (fun t9 ht9 hW9 => ⟨⟨(u_11, v_word, u_98), rfl, hf9, ⟨by rw [ht9]; exact hP, va_K.moved hW9.alike hK, hD⟩⟩, hS.F ht9⟩) hS.2.2 dX8_shiftDouble_140
    · skip
      by_cases c_58_1 : v_op = 141
      · skip
        refine lv_tableIn (tgt := 104) (off := 46) hx hb dX8_shiftDouble_58 (by rw [c_58_1]; decide) (by rw [c_58_1]; decide) (by rw [c_58_1]; rfl) (by decide) ?_
        refine lv_aload_n hx hb dX8_shiftDouble_104 rfl (lv_at hl 2 rfl) ?_
        refine va_get (D := D) (ci := 8) (v := .ref a_mc) (C := RX8) (T := TX8) (N := 2) hx hb hts in_X8 hown hK hP 0 rfl rfl 0 (by decide) q_0 (fun _ h9 => h9) rfl dX8_shiftDouble_105 ?_
        refine lv_aload_n hx hb dX8_shiftDouble_108 rfl (lv_at hl 2 rfl) ?_
        refine va_get (D := D) (ci := 8) (v := .ref a_ins) (C := RX8) (T := TX8) (N := 2) hx hb hts in_X8 hown hK hP 0 rfl rfl 1 (by decide) q_1 (fun _ h9 => h9) rfl dX8_shiftDouble_109 ?_
        refine va_getN (D := D) (ci := 4) (v := .int v_r) (C := RX4) (T := TX4) (N := 8) hx hb hts in_X4 hown hK hP 1 rfl rfl 4 (by decide) n_0 (fun _ h9 => h9) rfl dX8_shiftDouble_112 ?_
        refine lv_lload_n hx hb dX8_shiftDouble_115 rfl (lv_at hl 0 rfl) ?_
        refine lv_iload_n hx hb dX8_shiftDouble_116 rfl (lv_at hl 1 rfl) ?_
        refine lv_lshl hx hb dX8_shiftDouble_117 rfl ?_
        have hPc : va_P D vwCl (wX5_setPair cI cB a_mc a_me a_ps a_rg u_11 v_rF) H := hP.sub [2, 4] rfl
        have hDc : va_D A (wX5_setPair cI cB a_mc a_me a_ps a_rg u_11 v_rF) := hD.sub [2, 4] (by decide) rfl
        have hFc := va_free (wc := (wX5_setPair cI cB a_mc a_me a_ps a_rg u_11 v_rF)) hD hS hA [2, 4] rfl
        refine va_callv (va_runV (As := [.int v_r, .long ((r_47 <<< ((x_35 : Int32).toInt64 &&& 63)))]) (rest := []) ⟨hx, hb, hml, hown, hts⟩ (kX5_setPair l D cI cB a_mc a_me a_ps a_rg H.size u_11 v_rF v_r (r_47 <<< ((x_35 : Int32).toInt64 &&& 63))) (cwV 2 hts (gd_V wd_414 wd_415 wd_416 wd_24 wd_374) rfl rfl rfl hdX5_setPair ⟨Nat.le_of_ble_eq_true rfl, Nat.le_of_ble_eq_true rfl⟩) (preV_std (ci := 5) (q0 := 0) hPc hK hDc hNW rfl rfl) rfl rfl hl.1 rfl (lv_room (Nat.le_of_ble_eq_true rfl)) dX8_shiftDouble_118 ⟨Nat.zero_le _, Nat.zero_le _⟩) hS (fun q _ h => hFc q h) hFc (fun u_118 t9 H1 locs ht9 hvm9 hw9 hB9 hz9 hk9 hS => ?_)
        have eu_118 : u_118 = fX5_setPair v_r (r_47 <<< ((x_35 : Int32).toInt64 &&& 63)) v_rF := hw9
        obtain ⟨hP, hD⟩ := back_std (w1 := (wX5_setPair cI cB a_mc a_me a_ps a_rg u_11 u_118)) (w2 := (wX8_shiftDouble cI cB a_sh a_ins a_mc a_me a_ps a_rg v_op v_i v_r v_s v_a v_b u_11 v_word u_118)) (wr := [(a_sh, .inr (8, [.ref a_mc, .ref a_ins])), (a_ins, .inr (4, [.ref a_mc, .ref a_me, .int v_op, .int v_i, .int v_r, .int v_s, .int v_a, .int v_b])), (a_ps, .inr (7, [.long v_word]))]) hP hD [2, 4] [0, 1, 3] [0, 1, 3, 2, 4] rfl rfl (by decide) (by decide) hk9 hFc hB9 ht9 (by decide) rfl
        clear hB9 hk9 hz9 hvm9 ht9 hFc hPc hDc
        generalize H1 = H at hP hS ⊢
        refine lv_goto (tgt := 140) hx hb dX8_shiftDouble_121 (by decide) ?_
        have hf9 : (u_11, v_word, u_118) = fX8_shiftDouble v_op v_r v_a v_fault v_word v_rF := by subst ex_35; simp only [fX8_shiftDouble, ← eu_11, ← er_18, ← er_47, ← eu_118, if_neg c_21, if_neg c_58_0, if_pos c_58_1]
        exact W.vret hx hb hr (fun t9 ht9 hW9 => ⟨⟨(u_11, v_word, u_118), rfl, hf9, ⟨by rw [ht9]; exact hP, va_K.moved hW9.alike hK, hD⟩⟩, hS.F ht9⟩) hS.2.2 dX8_shiftDouble_140
      · skip
        by_cases c_58_2 : v_op = 142
        · skip
          refine lv_tableIn (tgt := 124) (off := 66) hx hb dX8_shiftDouble_58 (by rw [c_58_2]; decide) (by rw [c_58_2]; decide) (by rw [c_58_2]; rfl) (by decide) ?_
          refine lv_aload_n hx hb dX8_shiftDouble_124 rfl (lv_at hl 2 rfl) ?_
          refine lv_lload_n hx hb dX8_shiftDouble_125 rfl (lv_at hl 0 rfl) ?_
          refine lv_iload_n hx hb dX8_shiftDouble_126 rfl (lv_at hl 1 rfl) ?_
          refine lv_lshr hx hb dX8_shiftDouble_127 rfl ?_
          have hPc : va_P D vwCl (wX8_setDouble cI cB a_sh a_ins a_mc a_me a_ps a_rg v_op v_i v_r v_s v_a v_b u_11 v_word v_rF) H := hP.sub [0, 1, 2, 3, 4] rfl
          have hDc : va_D A (wX8_setDouble cI cB a_sh a_ins a_mc a_me a_ps a_rg v_op v_i v_r v_s v_a v_b u_11 v_word v_rF) := hD.sub [0, 1, 2, 3, 4] (by decide) rfl
          have hFc := va_free (wc := (wX8_setDouble cI cB a_sh a_ins a_mc a_me a_ps a_rg v_op v_i v_r v_s v_a v_b u_11 v_word v_rF)) hD hS hA [0, 1, 2, 3, 4] rfl
          refine va_callv (va_runV (As := [.long ((r_47 >>> ((x_35 : Int32).toInt64 &&& 63)))]) (rest := []) ⟨hx, hb, hml, hown, hts⟩ (kX8_setDouble l D cI cB a_sh a_ins a_mc a_me a_ps a_rg H.size v_op v_i v_r v_s v_a v_b u_11 v_word v_rF (r_47 >>> ((x_35 : Int32).toInt64 &&& 63))) (cwV 1 hts (gd_V wd_418 wd_419 wd_420 wd_400 wd_417) rfl rfl rfl hdX8_setDouble ⟨Nat.le_of_ble_eq_true rfl, Nat.le_of_ble_eq_true rfl⟩) (preV_std (ci := 8) (q0 := 0) hPc hK hDc hNW rfl rfl) rfl rfl hl.1 rfl (lv_room (Nat.le_of_ble_eq_true rfl)) dX8_shiftDouble_128 ⟨Nat.zero_le _, Nat.zero_le _⟩) hS (fun q _ h => hFc q h) hFc (fun u_128 t9 H1 locs ht9 hvm9 hw9 hB9 hz9 hk9 hS => ?_)
          have eu_128 : u_128 = fX8_setDouble (r_47 >>> ((x_35 : Int32).toInt64 &&& 63)) v_r v_word v_rF := hw9
          obtain ⟨hP, hD⟩ := back_std (w1 := (wX8_setDouble cI cB a_sh a_ins a_mc a_me a_ps a_rg v_op v_i v_r v_s v_a v_b u_11 u_128.1 u_128.2)) (w2 := (wX8_shiftDouble cI cB a_sh a_ins a_mc a_me a_ps a_rg v_op v_i v_r v_s v_a v_b u_11 u_128.1 u_128.2)) (wr := []) hP hD [0, 1, 2, 3, 4] [] [0, 1, 2, 3, 4] rfl rfl (by decide) (by decide) hk9 hFc hB9 ht9 (by decide) rfl
          clear hB9 hk9 hz9 hvm9 ht9 hFc hPc hDc
          generalize H1 = H at hP hS ⊢
          refine lv_goto (tgt := 140) hx hb dX8_shiftDouble_131 (by decide) ?_
          have hf9 : (u_11, u_128.1, u_128.2) = fX8_shiftDouble v_op v_r v_a v_fault v_word v_rF := by subst ex_35; simp only [fX8_shiftDouble, ← eu_11, ← er_18, ← er_47, ← eu_128, if_neg c_21, if_neg c_58_0, if_neg c_58_1, if_pos c_58_2]
          exact W.vret hx hb hr (fun t9 ht9 hW9 => ⟨⟨(u_11, u_128.1, u_128.2), rfl, hf9, ⟨by rw [ht9]; exact hP, va_K.moved hW9.alike hK, hD⟩⟩, hS.F ht9⟩) hS.2.2 dX8_shiftDouble_140
        · skip
          refine sw_def (tgt := 134) hx hb [140, 141, 142] dX8_shiftDouble_58 (by decide) (by decide) ?_ (by decide) ?_
          · intro v hv he
            simp only [List.mem_cons, List.not_mem_nil, or_false] at hv
            have hx9 : v_op = Int32.ofInt v := by rw [← he, Int32.ofInt_toInt]
            revert hx9
            rcases hv with rfl | rfl | rfl <;> intro hx9 <;> first | exact c_58_0 (by rw [hx9]; decide) | exact c_58_1 (by rw [hx9]; decide) | exact c_58_2 (by rw [hx9]; decide)
          · skip
            refine lv_aload_n hx hb dX8_shiftDouble_134 rfl (lv_at hl 2 rfl) ?_
            refine lv_lload_n hx hb dX8_shiftDouble_135 rfl (lv_at hl 0 rfl) ?_
            refine lv_iload_n hx hb dX8_shiftDouble_136 rfl (lv_at hl 1 rfl) ?_
            have hPc : va_P D vwCl (wX8_shiftDoubleLeft cI cB a_sh a_ins a_mc a_me a_ps a_rg v_op v_i v_r v_s v_a v_b u_11 v_word v_rF) H := hP.sub [0, 1, 2, 3, 4] rfl
            have hDc : va_D A (wX8_shiftDoubleLeft cI cB a_sh a_ins a_mc a_me a_ps a_rg v_op v_i v_r v_s v_a v_b u_11 v_word v_rF) := hD.sub [0, 1, 2, 3, 4] (by decide) rfl
            have hFc := va_free (wc := (wX8_shiftDoubleLeft cI cB a_sh a_ins a_mc a_me a_ps a_rg v_op v_i v_r v_s v_a v_b u_11 v_word v_rF)) hD hS hA [0, 1, 2, 3, 4] rfl
            refine va_callv (va_runV (As := [.long r_47, .int x_35]) (rest := []) ⟨hx, hb, hml, hown, hts⟩ (kX8_shiftDoubleLeft l D cI cB a_sh a_ins a_mc a_me a_ps a_rg H.size v_op v_i v_r v_s v_a v_b u_11 v_word v_rF r_47 x_35) (cwV 2 hts (gd_V wd_429 wd_430 wd_431 wd_400 wd_421) rfl rfl rfl hdX8_shiftDoubleLeft ⟨Nat.le_of_ble_eq_true rfl, Nat.le_of_ble_eq_true rfl⟩) (preV_std (ci := 8) (q0 := 0) hPc hK hDc hNW rfl rfl) rfl rfl hl.1 rfl (lv_room (Nat.le_of_ble_eq_true rfl)) dX8_shiftDouble_137 ⟨Nat.zero_le _, Nat.zero_le _⟩) hS (fun q _ h => hFc q h) hFc (fun u_137 t9 H1 locs ht9 hvm9 hw9 hB9 hz9 hk9 hS => ?_)
            have eu_137 : u_137 = fX8_shiftDoubleLeft r_47 x_35 v_r u_11 v_word v_rF := hw9
            obtain ⟨hP, hD⟩ := back_std (w1 := (wX8_shiftDoubleLeft cI cB a_sh a_ins a_mc a_me a_ps a_rg v_op v_i v_r v_s v_a v_b u_137.1 u_137.2.1 u_137.2.2)) (w2 := (wX8_shiftDouble cI cB a_sh a_ins a_mc a_me a_ps a_rg v_op v_i v_r v_s v_a v_b u_137.1 u_137.2.1 u_137.2.2)) (wr := []) hP hD [0, 1, 2, 3, 4] [] [0, 1, 2, 3, 4] rfl rfl (by decide) (by decide) hk9 hFc hB9 ht9 (by decide) rfl
            clear hB9 hk9 hz9 hvm9 ht9 hFc hPc hDc
            generalize H1 = H at hP hS ⊢
            have hf9 : (u_137.1, u_137.2.1, u_137.2.2) = fX8_shiftDouble v_op v_r v_a v_fault v_word v_rF := by subst ex_35; simp only [fX8_shiftDouble, ← eu_11, ← er_18, ← er_47, ← eu_137, if_neg c_21, if_neg c_58_0, if_neg c_58_1, if_neg c_58_2]
            exact W.vret hx hb hr (fun t9 ht9 hW9 => ⟨⟨(u_137.1, u_137.2.1, u_137.2.2), rfl, hf9, ⟨by rw [ht9]; exact hP, va_K.moved hW9.alike hK, hD⟩⟩, hS.F ht9⟩) hS.2.2 dX8_shiftDouble_140
  · skip
    have hf9 : (u_11, v_word, v_rF) = fX8_shiftDouble v_op v_r v_a v_fault v_word v_rF := by simp only [fX8_shiftDouble, ← eu_11, ← er_18, if_pos c_21]
    exact W.vret hx hb hr (fun t9 ht9 hW9 => ⟨⟨(u_11, v_word, v_rF), rfl, hf9, ⟨by rw [ht9]; exact hP, va_K.moved hW9.alike hK, hD⟩⟩, hS.F ht9⟩) hS.2.2 dX8_shiftDouble_24
theorem hdX8_shiftDouble : yX8_shiftDouble.cls = RX8 ∧ yX8_shiftDouble.cls ≠ "java/lang/invoke/MethodHandle" ∧ yX8_shiftDouble.cls ≠ "java/lang/invoke/VarHandle" ∧ (parseMethodDescriptor yX8_shiftDouble.desc).map (fun d => d.parameters.length) = some 0 := by decide +kernel
