noncomputable def fX10_bits (x0 : Int32) (v_r : Int32) (v_word : Int64) (v_rF : (Nat → Int32)) : (Int64 × (Nat → Int32)) :=
  let u_12 := fX5_setReg v_r x0 v_rF
  let u_20 := fX5_conditionByBits x0 v_word
  (u_20, u_12)
abbrev wX10_bits (cI cB : ClassId) (a_wo a_ins a_mc a_me a_ps a_rg : Nat) (v_op : Int32) (v_i : Int32) (v_r : Int32) (v_s : Int32) (v_a : Int32) (v_b : Int32) (v_fault : Int32) (v_word : Int64) (v_rF : (Nat → Int32)) : va_W := [(a_wo, .inr (10, [.ref a_mc, .ref a_ins])), (a_ins, .inr (4, [.ref a_mc, .ref a_me, .int v_op, .int v_i, .int v_r, .int v_s, .int v_a, .int v_b])), (a_mc, .inr (5, [.ref a_me, .ref a_ps, .ref a_rg, .int v_fault])), (a_ps, .inr (7, [.long v_word])), (a_rg, .inl (cI, 16, .inl v_rF))]
abbrev rmX10_bits : Room := { frames := 2, cells := 0, slots := 0, locals := 42 }
abbrev qX10_bits (D : va_G) (cI cB : ClassId) (a_wo a_ins a_mc a_me a_ps a_rg : Nat) (v_op : Int32) (v_i : Int32) (v_r : Int32) (v_s : Int32) (v_a : Int32) (v_b : Int32) (v_fault : Int32) (v_word : Int64) (v_rF : (Nat → Int32)) (x0 : Int32) : (Nat → Prop) → Array Value → State → Outcome → State → Prop := fun A9 => va_Qv (fun (u9 : (Int64 × (Nat → Int32))) => u9 = fX10_bits x0 v_r v_word v_rF) (fun u9 t9 => atW D (TYS cI cB) A9 (wX10_bits cI cB a_wo a_ins a_mc a_me a_ps a_rg v_op v_i v_r v_s v_a v_b v_fault u9.1 u9.2) t9) A9
set_option maxHeartbeats 4000000 in
set_option maxRecDepth 100000 in
theorem kX10_bits (l : Launch) (D : va_G) (cI cB : ClassId) (a_wo a_ins a_mc a_me a_ps a_rg : Nat) (sz : Nat) (v_op : Int32) (v_i : Int32) (v_r : Int32) (v_s : Int32) (v_a : Int32) (v_b : Int32) (v_fault : Int32) (v_word : Int64) (v_rF : (Nat → Int32)) (x0 : Int32) : MetW l yX10_bits (WK yX10_bits cX10_bits 2 none) rmX10_bits D (TYS cI cB) (wX10_bits cI cB a_wo a_ins a_mc a_me a_ps a_rg v_op v_i v_r v_s v_a v_b v_fault v_word v_rF) sz [.ref a_wo, .int x0] (qX10_bits D cI cB a_wo a_ins a_mc a_me a_ps a_rg v_op v_i v_r v_s v_a v_b v_fault v_word v_rF x0) 0 0 := by
  refine met_std (by decide) rfl (Nat.le_of_ble_eq_true rfl) ?_
  intro p e s m below meth c A ls H hx hb hr hml hown hts hlocks hA hP hK hD hS hNW hl
  have hl : lv_has ls 2 [(0, .ref a_wo), (1, .int x0)] := hl
  have q_0 := hts _ (List.mem_cons_of_mem _ wd_485)
  have q_1 := hts _ (List.mem_cons_of_mem _ wd_486)
  have n_0 := hNW.f (A := ([.ref a_wo, .int x0] : List Value).toArray) ("MainframeCore$Words", 65, "MainframeCore$Instruction", "\x72", "I", "MainframeCore") (by decide +kernel)
  refine lv_aload_n hx hb dX10_bits_0 rfl (lv_at hl 0 rfl) ?_
  refine va_get (D := D) (ci := 10) (v := .ref a_mc) (C := RX10) (T := TX10) (N := 2) hx hb hts in_X10 hown hK hP 0 rfl rfl 0 (by decide) q_0 (fun _ h9 => h9) rfl dX10_bits_1 ?_
  refine lv_aload_n hx hb dX10_bits_4 rfl (lv_at hl 0 rfl) ?_
  refine va_get (D := D) (ci := 10) (v := .ref a_ins) (C := RX10) (T := TX10) (N := 2) hx hb hts in_X10 hown hK hP 0 rfl rfl 1 (by decide) q_1 (fun _ h9 => h9) rfl dX10_bits_5 ?_
  refine va_getN (D := D) (ci := 4) (v := .int v_r) (C := RX4) (T := TX4) (N := 8) hx hb hts in_X4 hown hK hP 1 rfl rfl 4 (by decide) n_0 (fun _ h9 => h9) rfl dX10_bits_8 ?_
  refine lv_iload_n hx hb dX10_bits_11 rfl (lv_at hl 1 rfl) ?_
  have hPc : va_P D vwCl (wX5_setReg cI cB a_mc a_me a_ps a_rg v_fault v_rF) H := hP.sub [2, 4] rfl
  have hDc : va_D A (wX5_setReg cI cB a_mc a_me a_ps a_rg v_fault v_rF) := hD.sub [2, 4] (by decide) rfl
  have hFc := va_free (wc := (wX5_setReg cI cB a_mc a_me a_ps a_rg v_fault v_rF)) hD hS hA [2, 4] rfl
  refine va_callv (va_runV (As := [.int v_r, .int x0]) (rest := []) ⟨hx, hb, hml, hown, hts⟩ (kX5_setReg l D cI cB a_mc a_me a_ps a_rg H.size v_fault v_rF v_r x0) (cwV 2 hts (gd_V wd_487 wd_22 wd_23 wd_24 wd_6) rfl rfl rfl hdX5_setReg ⟨Nat.le_of_ble_eq_true rfl, Nat.le_of_ble_eq_true rfl⟩) (preV_std (ci := 5) (q0 := 0) hPc hK hDc hNW rfl rfl) rfl rfl hl.1 rfl (lv_room (Nat.le_of_ble_eq_true rfl)) dX10_bits_12 ⟨Nat.zero_le _, Nat.zero_le _⟩) hS (fun q _ h => hFc q h) hFc (fun u_12 t9 H1 locs ht9 hvm9 hw9 hB9 hz9 hk9 hS => ?_)
  have eu_12 : u_12 = fX5_setReg v_r x0 v_rF := hw9
  obtain ⟨hP, hD⟩ := back_std (w1 := (wX5_setReg cI cB a_mc a_me a_ps a_rg v_fault u_12)) (w2 := (wX10_bits cI cB a_wo a_ins a_mc a_me a_ps a_rg v_op v_i v_r v_s v_a v_b v_fault v_word u_12)) (wr := [(a_wo, .inr (10, [.ref a_mc, .ref a_ins])), (a_ins, .inr (4, [.ref a_mc, .ref a_me, .int v_op, .int v_i, .int v_r, .int v_s, .int v_a, .int v_b])), (a_ps, .inr (7, [.long v_word]))]) hP hD [2, 4] [0, 1, 3] [0, 1, 3, 2, 4] rfl rfl (by decide) (by decide) hk9 hFc hB9 ht9 (by decide) rfl
  clear hB9 hk9 hz9 hvm9 ht9 hFc hPc hDc
  generalize H1 = H at hP hS ⊢
  refine lv_aload_n hx hb dX10_bits_15 rfl (lv_at hl 0 rfl) ?_
  refine va_get (D := D) (ci := 10) (v := .ref a_mc) (C := RX10) (T := TX10) (N := 2) hx hb hts in_X10 hown hK hP 0 rfl rfl 0 (by decide) q_0 (fun _ h9 => h9) rfl dX10_bits_16 ?_
  refine lv_iload_n hx hb dX10_bits_19 rfl (lv_at hl 1 rfl) ?_
  have hPc : va_P D vwCl (wX5_conditionByBits cI cB a_mc a_me a_ps a_rg v_fault v_word) H := hP.sub [2, 3] rfl
  have hDc : va_D A (wX5_conditionByBits cI cB a_mc a_me a_ps a_rg v_fault v_word) := hD.sub [2, 3] (by decide) rfl
  have hFc := va_free (wc := (wX5_conditionByBits cI cB a_mc a_me a_ps a_rg v_fault v_word)) hD hS hA [2, 3] rfl
  refine va_callv (va_runV (As := [.int x0]) (rest := []) ⟨hx, hb, hml, hown, hts⟩ (kX5_conditionByBits l D cI cB a_mc a_me a_ps a_rg H.size v_fault v_word x0) (cwV 1 hts (gd_V wd_501 wd_450 wd_451 wd_24 wd_377) rfl rfl rfl hdX5_conditionByBits ⟨Nat.le_of_ble_eq_true rfl, Nat.le_of_ble_eq_true rfl⟩) (preV_std (ci := 5) (q0 := 0) hPc hK hDc hNW rfl rfl) rfl rfl hl.1 rfl (lv_room (Nat.le_of_ble_eq_true rfl)) dX10_bits_20 ⟨Nat.zero_le _, Nat.zero_le _⟩) hS (fun q _ h => hFc q h) hFc (fun u_20 t9 H1 locs ht9 hvm9 hw9 hB9 hz9 hk9 hS => ?_)
  have eu_20 : u_20 = fX5_conditionByBits x0 v_word := hw9
  obtain ⟨hP, hD⟩ := back_std (w1 := (wX5_conditionByBits cI cB a_mc a_me a_ps a_rg v_fault u_20)) (w2 := (wX10_bits cI cB a_wo a_ins a_mc a_me a_ps a_rg v_op v_i v_r v_s v_a v_b v_fault u_20 u_12)) (wr := [(a_wo, .inr (10, [.ref a_mc, .ref a_ins])), (a_ins, .inr (4, [.ref a_mc, .ref a_me, .int v_op, .int v_i, .int v_r, .int v_s, .int v_a, .int v_b])), (a_rg, .inl (cI, 16, .inl u_12))]) hP hD [2, 3] [0, 1, 4] [0, 1, 3, 4, 2] rfl rfl (by decide) (by decide) hk9 hFc hB9 ht9 (by decide) rfl
  clear hB9 hk9 hz9 hvm9 ht9 hFc hPc hDc
  generalize H1 = H at hP hS ⊢
  have hf9 : (u_20, u_12) = fX10_bits x0 v_r v_word v_rF := by simp only [fX10_bits, ← eu_12, ← eu_20]
  exact W.vret hx hb hr (fun t9 ht9 hW9 => ⟨⟨(u_20, u_12), rfl, hf9, ⟨by rw [ht9]; exact hP, va_K.moved hW9.alike hK, hD⟩⟩, hS.F ht9⟩) hS.2.2 dX10_bits_23
theorem hdX10_bits : yX10_bits.cls = RX10 ∧ yX10_bits.cls ≠ "java/lang/invoke/MethodHandle" ∧ yX10_bits.cls ≠ "java/lang/invoke/VarHandle" ∧ (parseMethodDescriptor yX10_bits.desc).map (fun d => d.parameters.length) = some 1 := by decide +kernel
noncomputable def fX10_signed (x0 : Int64) (v_r : Int32) (v_fault : Int32) (v_word : Int64) (v_rF : (Nat → Int32)) : (Int32 × Int64 × (Nat → Int32)) :=
  let u_13 := fX5_setReg v_r ((x0 : Int64).toInt32) v_rF
  if (lg_cmp (x0) (((x0 : Int64).toInt32 : Int32).toInt64)) = 0 then (let u_29 := fX5_conditionByNumber x0 v_word; (v_fault, u_29, u_13)) else (let u_43 := fX5_overflow 36 8 v_fault v_word; (u_43.1, u_43.2, u_13))
abbrev wX10_signed (cI cB : ClassId) (a_wo a_ins a_mc a_me a_ps a_rg : Nat) (v_op : Int32) (v_i : Int32) (v_r : Int32) (v_s : Int32) (v_a : Int32) (v_b : Int32) (v_fault : Int32) (v_word : Int64) (v_rF : (Nat → Int32)) : va_W := [(a_wo, .inr (10, [.ref a_mc, .ref a_ins])), (a_ins, .inr (4, [.ref a_mc, .ref a_me, .int v_op, .int v_i, .int v_r, .int v_s, .int v_a, .int v_b])), (a_mc, .inr (5, [.ref a_me, .ref a_ps, .ref a_rg, .int v_fault])), (a_ps, .inr (7, [.long v_word])), (a_rg, .inl (cI, 16, .inl v_rF))]
abbrev rmX10_signed : Room := { frames := 2, cells := 0, slots := 0, locals := 43 }
abbrev qX10_signed (D : va_G) (cI cB : ClassId) (a_wo a_ins a_mc a_me a_ps a_rg : Nat) (v_op : Int32) (v_i : Int32) (v_r : Int32) (v_s : Int32) (v_a : Int32) (v_b : Int32) (v_fault : Int32) (v_word : Int64) (v_rF : (Nat → Int32)) (x0 : Int64) : (Nat → Prop) → Array Value → State → Outcome → State → Prop := fun A9 => va_Qv (fun (u9 : (Int32 × Int64 × (Nat → Int32))) => u9 = fX10_signed x0 v_r v_fault v_word v_rF) (fun u9 t9 => atW D (TYS cI cB) A9 (wX10_signed cI cB a_wo a_ins a_mc a_me a_ps a_rg v_op v_i v_r v_s v_a v_b u9.1 u9.2.1 u9.2.2) t9) A9
set_option maxHeartbeats 4000000 in
set_option maxRecDepth 100000 in
theorem kX10_signed (l : Launch) (D : va_G) (cI cB : ClassId) (a_wo a_ins a_mc a_me a_ps a_rg : Nat) (sz : Nat) (v_op : Int32) (v_i : Int32) (v_r : Int32) (v_s : Int32) (v_a : Int32) (v_b : Int32) (v_fault : Int32) (v_word : Int64) (v_rF : (Nat → Int32)) (x0 : Int64) : MetW l yX10_signed (WK yX10_signed cX10_signed 3 none) rmX10_signed D (TYS cI cB) (wX10_signed cI cB a_wo a_ins a_mc a_me a_ps a_rg v_op v_i v_r v_s v_a v_b v_fault v_word v_rF) sz [.ref a_wo, .long x0] (qX10_signed D cI cB a_wo a_ins a_mc a_me a_ps a_rg v_op v_i v_r v_s v_a v_b v_fault v_word v_rF x0) 0 0 := by
  refine met_std (by decide) rfl (Nat.le_of_ble_eq_true rfl) ?_
  intro p e s m below meth c A ls H hx hb hr hml hown hts hlocks hA hP hK hD hS hNW hl
  have hl : lv_has ls 3 [(0, .ref a_wo), (1, .long x0)] := hl
  have q_0 := hts _ (List.mem_cons_of_mem _ wd_485)
  have q_1 := hts _ (List.mem_cons_of_mem _ wd_486)
  have n_0 := hNW.f (A := ([.ref a_wo, .long x0] : List Value).toArray) ("MainframeCore$Words", 65, "MainframeCore$Instruction", "\x72", "I", "MainframeCore") (by decide +kernel)
  refine lv_aload_n hx hb dX10_signed_0 rfl (lv_at hl 0 rfl) ?_
  refine va_get (D := D) (ci := 10) (v := .ref a_mc) (C := RX10) (T := TX10) (N := 2) hx hb hts in_X10 hown hK hP 0 rfl rfl 0 (by decide) q_0 (fun _ h9 => h9) rfl dX10_signed_1 ?_
  refine lv_aload_n hx hb dX10_signed_4 rfl (lv_at hl 0 rfl) ?_
  refine va_get (D := D) (ci := 10) (v := .ref a_ins) (C := RX10) (T := TX10) (N := 2) hx hb hts in_X10 hown hK hP 0 rfl rfl 1 (by decide) q_1 (fun _ h9 => h9) rfl dX10_signed_5 ?_
  refine va_getN (D := D) (ci := 4) (v := .int v_r) (C := RX4) (T := TX4) (N := 8) hx hb hts in_X4 hown hK hP 1 rfl rfl 4 (by decide) n_0 (fun _ h9 => h9) rfl dX10_signed_8 ?_
  refine lv_lload_n hx hb dX10_signed_11 rfl (lv_at hl 1 rfl) ?_
  refine lv_l2i hx hb dX10_signed_12 rfl ?_
  have hPc : va_P D vwCl (wX5_setReg cI cB a_mc a_me a_ps a_rg v_fault v_rF) H := hP.sub [2, 4] rfl
  have hDc : va_D A (wX5_setReg cI cB a_mc a_me a_ps a_rg v_fault v_rF) := hD.sub [2, 4] (by decide) rfl
  have hFc := va_free (wc := (wX5_setReg cI cB a_mc a_me a_ps a_rg v_fault v_rF)) hD hS hA [2, 4] rfl
  refine va_callv (va_runV (As := [.int v_r, .int (x0 : Int64).toInt32]) (rest := []) ⟨hx, hb, hml, hown, hts⟩ (kX5_setReg l D cI cB a_mc a_me a_ps a_rg H.size v_fault v_rF v_r ((x0 : Int64).toInt32)) (cwV 2 hts (gd_V wd_487 wd_22 wd_23 wd_24 wd_6) rfl rfl rfl hdX5_setReg ⟨Nat.le_of_ble_eq_true rfl, Nat.le_of_ble_eq_true rfl⟩) (preV_std (ci := 5) (q0 := 0) hPc hK hDc hNW rfl rfl) rfl rfl hl.1 rfl (lv_room (Nat.le_of_ble_eq_true rfl)) dX10_signed_13 ⟨Nat.zero_le _, Nat.zero_le _⟩) hS (fun q _ h => hFc q h) hFc (fun u_13 t9 H1 locs ht9 hvm9 hw9 hB9 hz9 hk9 hS => ?_)
  have eu_13 : u_13 = fX5_setReg v_r ((x0 : Int64).toInt32) v_rF := hw9
  obtain ⟨hP, hD⟩ := back_std (w1 := (wX5_setReg cI cB a_mc a_me a_ps a_rg v_fault u_13)) (w2 := (wX10_signed cI cB a_wo a_ins a_mc a_me a_ps a_rg v_op v_i v_r v_s v_a v_b v_fault v_word u_13)) (wr := [(a_wo, .inr (10, [.ref a_mc, .ref a_ins])), (a_ins, .inr (4, [.ref a_mc, .ref a_me, .int v_op, .int v_i, .int v_r, .int v_s, .int v_a, .int v_b])), (a_ps, .inr (7, [.long v_word]))]) hP hD [2, 4] [0, 1, 3] [0, 1, 3, 2, 4] rfl rfl (by decide) (by decide) hk9 hFc hB9 ht9 (by decide) rfl
  clear hB9 hk9 hz9 hvm9 ht9 hFc hPc hDc
  generalize H1 = H at hP hS ⊢
  refine lv_lload_n hx hb dX10_signed_16 rfl (lv_at hl 1 rfl) ?_
  refine lv_lload_n hx hb dX10_signed_17 rfl (lv_at hl 1 rfl) ?_
  refine lv_l2i hx hb dX10_signed_18 rfl ?_
  refine lv_i2l hx hb dX10_signed_19 rfl ?_
  refine W.lcmp hx hb dX10_signed_20 ?_
  refine lv_if_ne (tgt := 35) hx hb dX10_signed_21 (by decide) (fun c_21 => ?_) (fun c_21 => ?_)
  · skip
    refine lv_aload_n hx hb dX10_signed_35 rfl (lv_at hl 0 rfl) ?_
    refine va_get (D := D) (ci := 10) (v := .ref a_mc) (C := RX10) (T := TX10) (N := 2) hx hb hts in_X10 hown hK hP 0 rfl rfl 0 (by decide) q_0 (fun _ h9 => h9) rfl dX10_signed_36 ?_
    refine lv_bipush (v := 36) hx hb dX10_signed_39 (by decide) ?_
    refine lv_bipush (v := 8) hx hb dX10_signed_41 (by decide) ?_
    have hPc : va_P D vwCl (wX5_overflow cI cB a_mc a_me a_ps a_rg v_fault v_word) H := hP.sub [2, 3] rfl
    have hDc : va_D A (wX5_overflow cI cB a_mc a_me a_ps a_rg v_fault v_word) := hD.sub [2, 3] (by decide) rfl
    have hFc := va_free (wc := (wX5_overflow cI cB a_mc a_me a_ps a_rg v_fault v_word)) hD hS hA [2, 3] rfl
    refine va_callv (va_runV (As := [.int 36, .int 8]) (rest := []) ⟨hx, hb, hml, hown, hts⟩ (kX5_overflow l D cI cB a_mc a_me a_ps a_rg H.size v_fault v_word 36 8) (cwV 2 hts (gd_V wd_489 wd_246 wd_247 wd_24 wd_243) rfl rfl rfl hdX5_overflow ⟨Nat.le_of_ble_eq_true rfl, Nat.le_of_ble_eq_true rfl⟩) (preV_std (ci := 5) (q0 := 0) hPc hK hDc hNW rfl rfl) rfl rfl hl.1 rfl (lv_room (Nat.le_of_ble_eq_true rfl)) dX10_signed_43 ⟨Nat.zero_le _, Nat.zero_le _⟩) hS (fun q _ h => hFc q h) hFc (fun u_43 t9 H1 locs ht9 hvm9 hw9 hB9 hz9 hk9 hS => ?_)
    have eu_43 : u_43 = fX5_overflow 36 8 v_fault v_word := hw9
    obtain ⟨hP, hD⟩ := back_std (w1 := (wX5_overflow cI cB a_mc a_me a_ps a_rg u_43.1 u_43.2)) (w2 := (wX10_signed cI cB a_wo a_ins a_mc a_me a_ps a_rg v_op v_i v_r v_s v_a v_b u_43.1 u_43.2 u_13)) (wr := [(a_wo, .inr (10, [.ref a_mc, .ref a_ins])), (a_ins, .inr (4, [.ref a_mc, .ref a_me, .int v_op, .int v_i, .int v_r, .int v_s, .int v_a, .int v_b])), (a_rg, .inl (cI, 16, .inl u_13))]) hP hD [2, 3] [0, 1, 4] [0, 1, 3, 4, 2] rfl rfl (by decide) (by decide) hk9 hFc hB9 ht9 (by decide) rfl
    clear hB9 hk9 hz9 hvm9 ht9 hFc hPc hDc
    generalize H1 = H at hP hS ⊢
    have hf9 : (u_43.1, u_43.2, u_13) = fX10_signed x0 v_r v_fault v_word v_rF := by simp only [fX10_signed, ← eu_13, ← eu_43, if_neg c_21]
    exact W.vret hx hb hr (fun t9 ht9 hW9 => ⟨⟨(u_43.1, u_43.2, u_13), rfl, hf9, ⟨by rw [ht9]; exact hP, va_K.moved hW9.alike hK, hD⟩⟩, hS.F ht9⟩) hS.2.2 dX10_signed_46
  · skip
    refine lv_aload_n hx hb dX10_signed_24 rfl (lv_at hl 0 rfl) ?_
    refine va_get (D := D) (ci := 10) (v := .ref a_mc) (C := RX10) (T := TX10) (N := 2) hx hb hts in_X10 hown hK hP 0 rfl rfl 0 (by decide) q_0 (fun _ h9 => h9) rfl dX10_signed_25 ?_
    refine lv_lload_n hx hb dX10_signed_28 rfl (lv_at hl 1 rfl) ?_
    have hPc : va_P D vwCl (wX5_conditionByNumber cI cB a_mc a_me a_ps a_rg v_fault v_word) H := hP.sub [2, 3] rfl
    have hDc : va_D A (wX5_conditionByNumber cI cB a_mc a_me a_ps a_rg v_fault v_word) := hD.sub [2, 3] (by decide) rfl
    have hFc := va_free (wc := (wX5_conditionByNumber cI cB a_mc a_me a_ps a_rg v_fault v_word)) hD hS hA [2, 3] rfl
    refine va_callv (va_runV (As := [.long x0]) (rest := []) ⟨hx, hb, hml, hown, hts⟩ (kX5_conditionByNumber l D cI cB a_mc a_me a_ps a_rg H.size v_fault v_word x0) (cwV 1 hts (gd_V wd_488 wd_252 wd_253 wd_24 wd_239) rfl rfl rfl hdX5_conditionByNumber ⟨Nat.le_of_ble_eq_true rfl, Nat.le_of_ble_eq_true rfl⟩) (preV_std (ci := 5) (q0 := 0) hPc hK hDc hNW rfl rfl) rfl rfl hl.1 rfl (lv_room (Nat.le_of_ble_eq_true rfl)) dX10_signed_29 ⟨Nat.zero_le _, Nat.zero_le _⟩) hS (fun q _ h => hFc q h) hFc (fun u_29 t9 H1 locs ht9 hvm9 hw9 hB9 hz9 hk9 hS => ?_)
    have eu_29 : u_29 = fX5_conditionByNumber x0 v_word := hw9
    obtain ⟨hP, hD⟩ := back_std (w1 := (wX5_conditionByNumber cI cB a_mc a_me a_ps a_rg v_fault u_29)) (w2 := (wX10_signed cI cB a_wo a_ins a_mc a_me a_ps a_rg v_op v_i v_r v_s v_a v_b v_fault u_29 u_13)) (wr := [(a_wo, .inr (10, [.ref a_mc, .ref a_ins])), (a_ins, .inr (4, [.ref a_mc, .ref a_me, .int v_op, .int v_i, .int v_r, .int v_s, .int v_a, .int v_b])), (a_rg, .inl (cI, 16, .inl u_13))]) hP hD [2, 3] [0, 1, 4] [0, 1, 3, 4, 2] rfl rfl (by decide) (by decide) hk9 hFc hB9 ht9 (by decide) rfl
    clear hB9 hk9 hz9 hvm9 ht9 hFc hPc hDc
    generalize H1 = H at hP hS ⊢
    refine lv_goto (tgt := 46) hx hb dX10_signed_32 (by decide) ?_
    have hf9 : (v_fault, u_29, u_13) = fX10_signed x0 v_r v_fault v_word v_rF := by simp only [fX10_signed, ← eu_13, ← eu_29, if_pos c_21]
    exact W.vret hx hb hr (fun t9 ht9 hW9 => ⟨⟨(v_fault, u_29, u_13), rfl, hf9, ⟨by rw [ht9]; exact hP, va_K.moved hW9.alike hK, hD⟩⟩, hS.F ht9⟩) hS.2.2 dX10_signed_46
theorem hdX10_signed : yX10_signed.cls = RX10 ∧ yX10_signed.cls ≠ "java/lang/invoke/MethodHandle" ∧ yX10_signed.cls ≠ "java/lang/invoke/VarHandle" ∧ (parseMethodDescriptor yX10_signed.desc).map (fun d => d.parameters.length) = some 1 := by decide +kernel
noncomputable def fX10_unsigned (x0 : Int64) (v_r : Int32) (v_word : Int64) (v_rF : (Nat → Int32)) : (Int64 × (Nat → Int32)) :=
  let u_13 := fX5_setReg v_r ((x0 : Int64).toInt32) v_rF
  let m_29 : Int32 := (if (lg_cmp (x0) (4294967295)) ≤ 0 then (0) else (2))
  let m_49 : Int32 := (if (x0 : Int64).toInt32 = 0 then (m_29) else ((m_29 + 1)))
  let u_49 := fX7_setCondition m_49 v_word
  (u_49, u_13)
abbrev wX10_unsigned (cI cB : ClassId) (a_wo a_ins a_mc a_me a_ps a_rg : Nat) (v_op : Int32) (v_i : Int32) (v_r : Int32) (v_s : Int32) (v_a : Int32) (v_b : Int32) (v_fault : Int32) (v_word : Int64) (v_rF : (Nat → Int32)) : va_W := [(a_wo, .inr (10, [.ref a_mc, .ref a_ins])), (a_ins, .inr (4, [.ref a_mc, .ref a_me, .int v_op, .int v_i, .int v_r, .int v_s, .int v_a, .int v_b])), (a_mc, .inr (5, [.ref a_me, .ref a_ps, .ref a_rg, .int v_fault])), (a_ps, .inr (7, [.long v_word])), (a_rg, .inl (cI, 16, .inl v_rF))]
abbrev rmX10_unsigned : Room := { frames := 1, cells := 0, slots := 0, locals := 22 }
abbrev qX10_unsigned (D : va_G) (cI cB : ClassId) (a_wo a_ins a_mc a_me a_ps a_rg : Nat) (v_op : Int32) (v_i : Int32) (v_r : Int32) (v_s : Int32) (v_a : Int32) (v_b : Int32) (v_fault : Int32) (v_word : Int64) (v_rF : (Nat → Int32)) (x0 : Int64) : (Nat → Prop) → Array Value → State → Outcome → State → Prop := fun A9 => va_Qv (fun (u9 : (Int64 × (Nat → Int32))) => u9 = fX10_unsigned x0 v_r v_word v_rF) (fun u9 t9 => atW D (TYS cI cB) A9 (wX10_unsigned cI cB a_wo a_ins a_mc a_me a_ps a_rg v_op v_i v_r v_s v_a v_b v_fault u9.1 u9.2) t9) A9
set_option maxHeartbeats 4000000 in
set_option maxRecDepth 100000 in
theorem kX10_unsigned (l : Launch) (D : va_G) (cI cB : ClassId) (a_wo a_ins a_mc a_me a_ps a_rg : Nat) (sz : Nat) (v_op : Int32) (v_i : Int32) (v_r : Int32) (v_s : Int32) (v_a : Int32) (v_b : Int32) (v_fault : Int32) (v_word : Int64) (v_rF : (Nat → Int32)) (x0 : Int64) : MetW l yX10_unsigned (WK yX10_unsigned cX10_unsigned 4 none) rmX10_unsigned D (TYS cI cB) (wX10_unsigned cI cB a_wo a_ins a_mc a_me a_ps a_rg v_op v_i v_r v_s v_a v_b v_fault v_word v_rF) sz [.ref a_wo, .long x0] (qX10_unsigned D cI cB a_wo a_ins a_mc a_me a_ps a_rg v_op v_i v_r v_s v_a v_b v_fault v_word v_rF x0) 0 0 := by
  refine met_std (by decide) rfl (Nat.le_of_ble_eq_true rfl) ?_
  intro p e s m below meth c A ls H hx hb hr hml hown hts hlocks hA hP hK hD hS hNW hl
  have hl : lv_has ls 4 [(0, .ref a_wo), (1, .long x0)] := hl
  have q_0 := hts _ (List.mem_cons_of_mem _ wd_485)
  have q_1 := hts _ (List.mem_cons_of_mem _ wd_486)
  have q_2 := hts _ (List.mem_cons_of_mem _ wd_512)
  have n_0 := hNW.f (A := ([.ref a_wo, .long x0] : List Value).toArray) ("MainframeCore$Words", 65, "MainframeCore$Instruction", "\x72", "I", "MainframeCore") (by decide +kernel)
  have n_1 := hNW.f (A := ([.ref a_wo, .long x0] : List Value).toArray) ("MainframeCore$Words", 104, "MainframeCore$Machine", "psw", "LMainframeCore$Psw;", "MainframeCore") (by decide +kernel)
  refine lv_aload_n hx hb dX10_unsigned_0 rfl (lv_at hl 0 rfl) ?_
  refine va_get (D := D) (ci := 10) (v := .ref a_mc) (C := RX10) (T := TX10) (N := 2) hx hb hts in_X10 hown hK hP 0 rfl rfl 0 (by decide) q_0 (fun _ h9 => h9) rfl dX10_unsigned_1 ?_
  refine lv_aload_n hx hb dX10_unsigned_4 rfl (lv_at hl 0 rfl) ?_
  refine va_get (D := D) (ci := 10) (v := .ref a_ins) (C := RX10) (T := TX10) (N := 2) hx hb hts in_X10 hown hK hP 0 rfl rfl 1 (by decide) q_1 (fun _ h9 => h9) rfl dX10_unsigned_5 ?_
  refine va_getN (D := D) (ci := 4) (v := .int v_r) (C := RX4) (T := TX4) (N := 8) hx hb hts in_X4 hown hK hP 1 rfl rfl 4 (by decide) n_0 (fun _ h9 => h9) rfl dX10_unsigned_8 ?_
  refine lv_lload_n hx hb dX10_unsigned_11 rfl (lv_at hl 1 rfl) ?_
  refine lv_l2i hx hb dX10_unsigned_12 rfl ?_
  have hPc : va_P D vwCl (wX5_setReg cI cB a_mc a_me a_ps a_rg v_fault v_rF) H := hP.sub [2, 4] rfl
  have hDc : va_D A (wX5_setReg cI cB a_mc a_me a_ps a_rg v_fault v_rF) := hD.sub [2, 4] (by decide) rfl
  have hFc := va_free (wc := (wX5_setReg cI cB a_mc a_me a_ps a_rg v_fault v_rF)) hD hS hA [2, 4] rfl
  refine va_callv (va_runV (As := [.int v_r, .int (x0 : Int64).toInt32]) (rest := []) ⟨hx, hb, hml, hown, hts⟩ (kX5_setReg l D cI cB a_mc a_me a_ps a_rg H.size v_fault v_rF v_r ((x0 : Int64).toInt32)) (cwV 2 hts (gd_V wd_487 wd_22 wd_23 wd_24 wd_6) rfl rfl rfl hdX5_setReg ⟨Nat.le_of_ble_eq_true rfl, Nat.le_of_ble_eq_true rfl⟩) (preV_std (ci := 5) (q0 := 0) hPc hK hDc hNW rfl rfl) rfl rfl hl.1 rfl (lv_room (Nat.le_of_ble_eq_true rfl)) dX10_unsigned_13 ⟨Nat.zero_le _, Nat.zero_le _⟩) hS (fun q _ h => hFc q h) hFc (fun u_13 t9 H1 locs ht9 hvm9 hw9 hB9 hz9 hk9 hS => ?_)
  have eu_13 : u_13 = fX5_setReg v_r ((x0 : Int64).toInt32) v_rF := hw9
  obtain ⟨hP, hD⟩ := back_std (w1 := (wX5_setReg cI cB a_mc a_me a_ps a_rg v_fault u_13)) (w2 := (wX10_unsigned cI cB a_wo a_ins a_mc a_me a_ps a_rg v_op v_i v_r v_s v_a v_b v_fault v_word u_13)) (wr := [(a_wo, .inr (10, [.ref a_mc, .ref a_ins])), (a_ins, .inr (4, [.ref a_mc, .ref a_me, .int v_op, .int v_i, .int v_r, .int v_s, .int v_a, .int v_b])), (a_ps, .inr (7, [.long v_word]))]) hP hD [2, 4] [0, 1, 3] [0, 1, 3, 2, 4] rfl rfl (by decide) (by decide) hk9 hFc hB9 ht9 (by decide) rfl
  clear hB9 hk9 hz9 hvm9 ht9 hFc hPc hDc
  generalize H1 = H at hP hS ⊢
  refine lv_lload_n hx hb dX10_unsigned_16 rfl (lv_at hl 1 rfl) ?_
  refine lv_ldc2 (v := 4294967295) hx hb hown q_2 dX10_unsigned_17 ?_
  refine W.lcmp hx hb dX10_unsigned_20 ?_
  have J_29 : ∀ (m_29 : Int32), m_29 = (if (lg_cmp (x0) (4294967295)) ≤ 0 then (0) else (2)) → ∀ (H : Heap) (locs : List Loc), va_P D vwCl (wX10_unsigned cI cB a_wo a_ins a_mc a_me a_ps a_rg v_op v_i v_r v_s v_a v_b v_fault v_word u_13) H → va_D A (wX10_unsigned cI cB a_wo a_ins a_mc a_me a_ps a_rg v_op v_i v_r v_s v_a v_b v_fault v_word u_13) → va_S A s.heap H locs → ∀ (ls : Array Slot), lv_has ls 4 [(0, .ref a_wo), (1, .long x0)] → W p l e rmX10_unsigned s m ([.ref a_wo, .long x0] : List Value).toArray below meth c H locs 0 0 (MQ below (qX10_unsigned D cI cB a_wo a_ins a_mc a_me a_ps a_rg v_op v_i v_r v_s v_a v_b v_fault v_word v_rF x0 A) ([.ref a_wo, .long x0] : List Value).toArray s 0 0 A) (F0 m 29 ls [.int m_29]) := by
    intro m_29 em_29 H locs hP hD hS ls hl
    refine lv_istore_n (lv' := [(3, .int m_29), (0, .ref a_wo), (1, .long x0)]) hx hb dX10_unsigned_29 rfl hl (by decide) rfl (fun ls hl => ?_)
    refine lv_aload_n hx hb dX10_unsigned_30 rfl (lv_at hl 1 rfl) ?_
    refine va_get (D := D) (ci := 10) (v := .ref a_mc) (C := RX10) (T := TX10) (N := 2) hx hb hts in_X10 hown hK hP 0 rfl rfl 0 (by decide) q_0 (fun _ h9 => h9) rfl dX10_unsigned_31 ?_
    refine va_getN (D := D) (ci := 5) (v := .ref a_ps) (C := RX5) (T := TX5) (N := 4) hx hb hts in_X5 hown hK hP 2 rfl rfl 1 (by decide) n_1 (fun _ h9 => h9) rfl dX10_unsigned_34 ?_
    refine lv_lload_n hx hb dX10_unsigned_37 rfl (lv_at hl 2 rfl) ?_
    refine lv_l2i hx hb dX10_unsigned_38 rfl ?_
    have J_49 : ∀ (m_49 : Int32), m_49 = (if (x0 : Int64).toInt32 = 0 then (m_29) else ((m_29 + 1))) → ∀ (H : Heap) (locs : List Loc), va_P D vwCl (wX10_unsigned cI cB a_wo a_ins a_mc a_me a_ps a_rg v_op v_i v_r v_s v_a v_b v_fault v_word u_13) H → va_D A (wX10_unsigned cI cB a_wo a_ins a_mc a_me a_ps a_rg v_op v_i v_r v_s v_a v_b v_fault v_word u_13) → va_S A s.heap H locs → ∀ (ls : Array Slot), lv_has ls 4 [(0, .ref a_wo), (1, .long x0), (3, .int m_29)] → W p l e rmX10_unsigned s m ([.ref a_wo, .long x0] : List Value).toArray below meth c H locs 0 0 (MQ below (qX10_unsigned D cI cB a_wo a_ins a_mc a_me a_ps a_rg v_op v_i v_r v_s v_a v_b v_fault v_word v_rF x0 A) ([.ref a_wo, .long x0] : List Value).toArray s 0 0 A) (F0 m 49 ls [.int m_49, .ref a_ps]) := by
      intro m_49 em_49 H locs hP hD hS ls hl
      have hPc : va_P D vwCl (wX7_setCondition cI cB a_ps v_word) H := hP.sub [3] rfl
      have hDc : va_D A (wX7_setCondition cI cB a_ps v_word) := hD.sub [3] (by decide) rfl
      have hFc := va_free (wc := (wX7_setCondition cI cB a_ps v_word)) hD hS hA [3] rfl
      refine va_callv (va_runV (As := [.int m_49]) (rest := []) ⟨hx, hb, hml, hown, hts⟩ (kX7_setCondition l D cI cB a_ps H.size v_word m_49) (cwV 1 hts (gd_V wd_513 wd_241 wd_242 wd_15 wd_236) rfl rfl rfl hdX7_setCondition ⟨Nat.le_of_ble_eq_true rfl, Nat.le_of_ble_eq_true rfl⟩) (preV_std (ci := 7) (q0 := 0) hPc hK hDc hNW rfl rfl) rfl rfl hl.1 rfl (lv_room (Nat.le_of_ble_eq_true rfl)) dX10_unsigned_49 ⟨Nat.zero_le _, Nat.zero_le _⟩) hS (fun q _ h => hFc q h) hFc (fun u_49 t9 H1 locs ht9 hvm9 hw9 hB9 hz9 hk9 hS => ?_)
      have eu_49 : u_49 = fX7_setCondition m_49 v_word := hw9
      obtain ⟨hP, hD⟩ := back_std (w1 := (wX7_setCondition cI cB a_ps u_49)) (w2 := (wX10_unsigned cI cB a_wo a_ins a_mc a_me a_ps a_rg v_op v_i v_r v_s v_a v_b v_fault u_49 u_13)) (wr := [(a_wo, .inr (10, [.ref a_mc, .ref a_ins])), (a_ins, .inr (4, [.ref a_mc, .ref a_me, .int v_op, .int v_i, .int v_r, .int v_s, .int v_a, .int v_b])), (a_mc, .inr (5, [.ref a_me, .ref a_ps, .ref a_rg, .int v_fault])), (a_rg, .inl (cI, 16, .inl u_13))]) hP hD [3] [0, 1, 2, 4] [0, 1, 2, 4, 3] rfl rfl (by decide) (by decide) hk9 hFc hB9 ht9 (by decide) rfl
      clear hB9 hk9 hz9 hvm9 ht9 hFc hPc hDc
      generalize H1 = H at hP hS ⊢
      have hf9 : (u_49, u_13) = fX10_unsigned x0 v_r v_word v_rF := by subst em_49; subst em_29; simp only [fX10_unsigned, ← eu_13, ← eu_49]
      exact W.vret hx hb hr (fun t9 ht9 hW9 => ⟨⟨(u_49, u_13), rfl, hf9, ⟨by rw [ht9]; exact hP, va_K.moved hW9.alike hK, hD⟩⟩, hS.F ht9⟩) hS.2.2 dX10_unsigned_52
    refine lv_if_ne (tgt := 46) hx hb dX10_unsigned_39 (by decide) (fun c_39 => ?_) (fun c_39 => ?_)
    · skip
      refine lv_iload_n hx hb dX10_unsigned_46 rfl (lv_at hl 0 rfl) ?_
      refine lv_iconst (v := 1) hx hb dX10_unsigned_47 (by decide) ?_
      refine lv_iadd hx hb dX10_unsigned_48 ?_
      exact J_49 (m_29 + 1) (by simp only [if_neg c_39]) _ _ hP hD hS ls (lv_sub hl [1, 2, 0] rfl)
    · skip
      refine lv_iload_n hx hb dX10_unsigned_42 rfl (lv_at hl 0 rfl) ?_
      refine lv_goto (tgt := 49) hx hb dX10_unsigned_43 (by decide) ?_
      exact J_49 m_29 (by simp only [if_pos c_39]) _ _ hP hD hS ls (lv_sub hl [1, 2, 0] rfl)
  refine lv_if_le (tgt := 28) hx hb dX10_unsigned_21 (by decide) (fun c_21 => ?_) (fun c_21 => ?_)
  · skip
    refine lv_iconst (v := 0) hx hb dX10_unsigned_28 (by decide) ?_
    exact J_29 0 (by simp only [if_pos c_21]) _ _ hP hD hS ls (lv_sub hl [0, 1] rfl)
  · skip
    refine lv_iconst (v := 2) hx hb dX10_unsigned_24 (by decide) ?_
    refine lv_goto (tgt := 29) hx hb dX10_unsigned_25 (by decide) ?_
    exact J_29 2 (by simp only [if_neg c_21]) _ _ hP hD hS ls (lv_sub hl [0, 1] rfl)
theorem hdX10_unsigned : yX10_unsigned.cls = RX10 ∧ yX10_unsigned.cls ≠ "java/lang/invoke/MethodHandle" ∧ yX10_unsigned.cls ≠ "java/lang/invoke/VarHandle" ∧ (parseMethodDescriptor yX10_unsigned.desc).map (fun d => d.parameters.length) = some 1 := by decide +kernel
noncomputable def fX10_multiply (x0 : Int32) (v_r : Int32) (v_fault : Int32) (v_rF : (Nat → Int32)) : (Int32 × (Nat → Int32)) :=
  let u_11 := fX5_demandEven v_r v_fault
  let r_18 := fX5_fine u_11
  if r_18 = 0 then ((u_11, v_rF)) else (let r_48 := fX5_reg (v_r + 1) v_rF; let u_55 := fX5_setPair v_r ((r_48 : Int32).toInt64 * (x0 : Int32).toInt64) v_rF; (u_11, u_55))
abbrev wX10_multiply (cI cB : ClassId) (a_wo a_ins a_mc a_me a_ps a_rg : Nat) (v_op : Int32) (v_i : Int32) (v_r : Int32) (v_s : Int32) (v_a : Int32) (v_b : Int32) (v_fault : Int32) (v_rF : (Nat → Int32)) : va_W := [(a_wo, .inr (10, [.ref a_mc, .ref a_ins])), (a_ins, .inr (4, [.ref a_mc, .ref a_me, .int v_op, .int v_i, .int v_r, .int v_s, .int v_a, .int v_b])), (a_mc, .inr (5, [.ref a_me, .ref a_ps, .ref a_rg, .int v_fault])), (a_rg, .inl (cI, 16, .inl v_rF))]
abbrev rmX10_multiply : Room := { frames := 2, cells := 0, slots := 0, locals := 45 }
abbrev qX10_multiply (D : va_G) (cI cB : ClassId) (a_wo a_ins a_mc a_me a_ps a_rg : Nat) (v_op : Int32) (v_i : Int32) (v_r : Int32) (v_s : Int32) (v_a : Int32) (v_b : Int32) (v_fault : Int32) (v_rF : (Nat → Int32)) (x0 : Int32) : (Nat → Prop) → Array Value → State → Outcome → State → Prop := fun A9 => va_Qv (fun (u9 : (Int32 × (Nat → Int32))) => u9 = fX10_multiply x0 v_r v_fault v_rF) (fun u9 t9 => atW D (TYS cI cB) A9 (wX10_multiply cI cB a_wo a_ins a_mc a_me a_ps a_rg v_op v_i v_r v_s v_a v_b u9.1 u9.2) t9) A9
set_option maxHeartbeats 4000000 in
set_option maxRecDepth 100000 in
theorem kX10_multiply (l : Launch) (D : va_G) (cI cB : ClassId) (a_wo a_ins a_mc a_me a_ps a_rg : Nat) (sz : Nat) (v_op : Int32) (v_i : Int32) (v_r : Int32) (v_s : Int32) (v_a : Int32) (v_b : Int32) (v_fault : Int32) (v_rF : (Nat → Int32)) (x0 : Int32) : MetW l yX10_multiply (WK yX10_multiply cX10_multiply 2 none) rmX10_multiply D (TYS cI cB) (wX10_multiply cI cB a_wo a_ins a_mc a_me a_ps a_rg v_op v_i v_r v_s v_a v_b v_fault v_rF) sz [.ref a_wo, .int x0] (qX10_multiply D cI cB a_wo a_ins a_mc a_me a_ps a_rg v_op v_i v_r v_s v_a v_b v_fault v_rF x0) 0 0 := by
  refine met_std (by decide) rfl (Nat.le_of_ble_eq_true rfl) ?_
  intro p e s m below meth c A ls H hx hb hr hml hown hts hlocks hA hP hK hD hS hNW hl
  have hl : lv_has ls 2 [(0, .ref a_wo), (1, .int x0)] := hl
  have q_0 := hts _ (List.mem_cons_of_mem _ wd_485)
  have q_1 := hts _ (List.mem_cons_of_mem _ wd_486)
  have n_0 := hNW.f (A := ([.ref a_wo, .int x0] : List Value).toArray) ("MainframeCore$Words", 65, "MainframeCore$Instruction", "\x72", "I", "MainframeCore") (by decide +kernel)
  refine lv_aload_n hx hb dX10_multiply_0 rfl (lv_at hl 0 rfl) ?_
  refine va_get (D := D) (ci := 10) (v := .ref a_mc) (C := RX10) (T := TX10) (N := 2) hx hb hts in_X10 hown hK hP 0 rfl rfl 0 (by decide) q_0 (fun _ h9 => h9) rfl dX10_multiply_1 ?_
  refine lv_aload_n hx hb dX10_multiply_4 rfl (lv_at hl 0 rfl) ?_
  refine va_get (D := D) (ci := 10) (v := .ref a_ins) (C := RX10) (T := TX10) (N := 2) hx hb hts in_X10 hown hK hP 0 rfl rfl 1 (by decide) q_1 (fun _ h9 => h9) rfl dX10_multiply_5 ?_
  refine va_getN (D := D) (ci := 4) (v := .int v_r) (C := RX4) (T := TX4) (N := 8) hx hb hts in_X4 hown hK hP 1 rfl rfl 4 (by decide) n_0 (fun _ h9 => h9) rfl dX10_multiply_8 ?_
  have hPc : va_P D vwCl (wX5_demandEven cI cB a_mc a_me a_ps a_rg v_fault) H := hP.sub [2] rfl
  have hDc : va_D A (wX5_demandEven cI cB a_mc a_me a_ps a_rg v_fault) := hD.sub [2] (by decide) rfl
  have hFc := va_free (wc := (wX5_demandEven cI cB a_mc a_me a_ps a_rg v_fault)) hD hS hA [2] rfl
  refine va_callv (va_runV (As := [.int v_r]) (rest := []) ⟨hx, hb, hml, hown, hts⟩ (kX5_demandEven l D cI cB a_mc a_me a_ps a_rg H.size v_fault v_r) (cwV 1 hts (gd_V wd_502 wd_423 wd_424 wd_24 wd_375) rfl rfl rfl hdX5_demandEven ⟨Nat.le_of_ble_eq_true rfl, Nat.le_of_ble_eq_true rfl⟩) (preV_std (ci := 5) (q0 := 0) hPc hK hDc hNW rfl rfl) rfl rfl hl.1 rfl (lv_room (Nat.le_of_ble_eq_true rfl)) dX10_multiply_11 ⟨Nat.zero_le _, Nat.zero_le _⟩) hS (fun q _ h => hFc q h) hFc (fun u_11 t9 H1 locs ht9 hvm9 hw9 hB9 hz9 hk9 hS => ?_)
  have eu_11 : u_11 = fX5_demandEven v_r v_fault := hw9
  obtain ⟨hP, hD⟩ := back_std (w1 := (wX5_demandEven cI cB a_mc a_me a_ps a_rg u_11)) (w2 := (wX10_multiply cI cB a_wo a_ins a_mc a_me a_ps a_rg v_op v_i v_r v_s v_a v_b u_11 v_rF)) (wr := [(a_wo, .inr (10, [.ref a_mc, .ref a_ins])), (a_ins, .inr (4, [.ref a_mc, .ref a_me, .int v_op, .int v_i, .int v_r, .int v_s, .int v_a, .int v_b])), (a_rg, .inl (cI, 16, .inl v_rF))]) hP hD [2] [0, 1, 3] [0, 1, 3, 2] rfl rfl (by decide) (by decide) hk9 hFc hB9 ht9 (by decide) rfl
  clear hB9 hk9 hz9 hvm9 ht9 hFc hPc hDc
  generalize H1 = H at hP hS ⊢
  refine lv_aload_n hx hb dX10_multiply_14 rfl (lv_at hl 0 rfl) ?_
  refine va_get (D := D) (ci := 10) (v := .ref a_mc) (C := RX10) (T := TX10) (N := 2) hx hb hts in_X10 hown hK hP 0 rfl rfl 0 (by decide) q_0 (fun _ h9 => h9) rfl dX10_multiply_15 ?_
  have hPc : va_P D vwCl (wX5_fine cI cB a_mc a_me a_ps a_rg u_11) H := hP.sub [2] rfl
  have hDc : va_D A (wX5_fine cI cB a_mc a_me a_ps a_rg u_11) := hD.sub [2] (by decide) rfl
  have hFc := va_free (wc := (wX5_fine cI cB a_mc a_me a_ps a_rg u_11)) hD hS hA [2] rfl
  refine va_calli (va_runV (As := []) (rest := []) ⟨hx, hb, hml, hown, hts⟩ (kX5_fine l D cI cB a_mc a_me a_ps a_rg H.size u_11 ) (cwV 0 hts (gd_V wd_503 wd_73 wd_74 wd_24 wd_66) rfl rfl rfl hdX5_fine ⟨Nat.le_of_ble_eq_true rfl, Nat.le_of_ble_eq_true rfl⟩) (preV_std (ci := 5) (q0 := 0) hPc hK hDc hNW rfl rfl) rfl rfl hl.1 rfl (lv_room (Nat.le_of_ble_eq_true rfl)) dX10_multiply_18 ⟨Nat.zero_le _, Nat.zero_le _⟩) hS (fun q _ h => hFc q h) hFc (fun r_18 u_18 t9 H1 locs ht9 hvm9 hw9 hB9 hz9 hk9 hS => ?_)
  have er_18 : r_18 = fX5_fine u_11 := hw9
  have zr_18 : r_18 = 0 ∨ r_18 = 1 := by rw [er_18]; exact zX5_fine _
  obtain ⟨hP, hD⟩ := back_std (w1 := (wX5_fine cI cB a_mc a_me a_ps a_rg u_11)) (w2 := (wX10_multiply cI cB a_wo a_ins a_mc a_me a_ps a_rg v_op v_i v_r v_s v_a v_b u_11 v_rF)) (wr := [(a_wo, .inr (10, [.ref a_mc, .ref a_ins])), (a_ins, .inr (4, [.ref a_mc, .ref a_me, .int v_op, .int v_i, .int v_r, .int v_s, .int v_a, .int v_b])), (a_rg, .inl (cI, 16, .inl v_rF))]) hP hD [2] [0, 1, 3] [0, 1, 3, 2] rfl rfl (by decide) (by decide) hk9 hFc hB9 ht9 (by decide) rfl
  clear hB9 hk9 hz9 hvm9 ht9 hFc hPc hDc
  generalize H1 = H at hP hS ⊢
  refine lv_if_eq (tgt := 58) hx hb dX10_multiply_21 (by decide) (fun c_21 => ?_) (fun c_21 => ?_)
  · skip
    have hf9 : (u_11, v_rF) = fX10_multiply x0 v_r v_fault v_rF := by simp only [fX10_multiply, ← eu_11, ← er_18, if_pos c_21]
    exact W.vret hx hb hr (fun t9 ht9 hW9 => ⟨⟨(u_11, v_rF), rfl, hf9, ⟨by rw [ht9]; exact hP, va_K.moved hW9.alike hK, hD⟩⟩, hS.F ht9⟩) hS.2.2 dX10_multiply_58
  · skip
    refine lv_aload_n hx hb dX10_multiply_24 rfl (lv_at hl 0 rfl) ?_
    refine va_get (D := D) (ci := 10) (v := .ref a_mc) (C := RX10) (T := TX10) (N := 2) hx hb hts in_X10 hown hK hP 0 rfl rfl 0 (by decide) q_0 (fun _ h9 => h9) rfl dX10_multiply_25 ?_
    refine lv_aload_n hx hb dX10_multiply_28 rfl (lv_at hl 0 rfl) ?_
    refine va_get (D := D) (ci := 10) (v := .ref a_ins) (C := RX10) (T := TX10) (N := 2) hx hb hts in_X10 hown hK hP 0 rfl rfl 1 (by decide) q_1 (fun _ h9 => h9) rfl dX10_multiply_29 ?_
    refine va_getN (D := D) (ci := 4) (v := .int v_r) (C := RX4) (T := TX4) (N := 8) hx hb hts in_X4 hown hK hP 1 rfl rfl 4 (by decide) n_0 (fun _ h9 => h9) rfl dX10_multiply_32 ?_
    refine lv_aload_n hx hb dX10_multiply_35 rfl (lv_at hl 0 rfl) ?_
    refine va_get (D := D) (ci := 10) (v := .ref a_mc) (C := RX10) (T := TX10) (N := 2) hx hb hts in_X10 hown hK hP 0 rfl rfl 0 (by decide) q_0 (fun _ h9 => h9) rfl dX10_multiply_36 ?_
    refine lv_aload_n hx hb dX10_multiply_39 rfl (lv_at hl 0 rfl) ?_
    refine va_get (D := D) (ci := 10) (v := .ref a_ins) (C := RX10) (T := TX10) (N := 2) hx hb hts in_X10 hown hK hP 0 rfl rfl 1 (by decide) q_1 (fun _ h9 => h9) rfl dX10_multiply_40 ?_
    refine va_getN (D := D) (ci := 4) (v := .int v_r) (C := RX4) (T := TX4) (N := 8) hx hb hts in_X4 hown hK hP 1 rfl rfl 4 (by decide) n_0 (fun _ h9 => h9) rfl dX10_multiply_43 ?_
    refine lv_iconst (v := 1) hx hb dX10_multiply_46 (by decide) ?_
    refine lv_iadd hx hb dX10_multiply_47 ?_
    have hPc : va_P D vwCl (wX5_reg cI cB a_mc a_me a_ps a_rg u_11 v_rF) H := hP.sub [2, 3] rfl
    have hDc : va_D A (wX5_reg cI cB a_mc a_me a_ps a_rg u_11 v_rF) := hD.sub [2, 3] (by decide) rfl
    have hFc := va_free (wc := (wX5_reg cI cB a_mc a_me a_ps a_rg u_11 v_rF)) hD hS hA [2, 3] rfl
    refine va_calli (va_runV (As := [.int (v_r + 1)]) (rest := [.int v_r, .ref a_mc]) ⟨hx, hb, hml, hown, hts⟩ (kX5_reg l D cI cB a_mc a_me a_ps a_rg H.size u_11 v_rF (v_r + 1)) (cwV 1 hts (gd_V wd_504 wd_31 wd_32 wd_24 wd_29) rfl rfl rfl hdX5_reg ⟨Nat.le_of_ble_eq_true rfl, Nat.le_of_ble_eq_true rfl⟩) (preV_std (ci := 5) (q0 := 0) hPc hK hDc hNW rfl rfl) rfl rfl hl.1 rfl (lv_room (Nat.le_of_ble_eq_true rfl)) dX10_multiply_48 ⟨Nat.zero_le _, Nat.zero_le _⟩) hS (fun q _ h => hFc q h) hFc (fun r_48 u_48 t9 H1 locs ht9 hvm9 hw9 hB9 hz9 hk9 hS => ?_)
    have er_48 : r_48 = fX5_reg (v_r + 1) v_rF := hw9
    obtain ⟨hP, hD⟩ := back_std (w1 := (wX5_reg cI cB a_mc a_me a_ps a_rg u_11 v_rF)) (w2 := (wX10_multiply cI cB a_wo a_ins a_mc a_me a_ps a_rg v_op v_i v_r v_s v_a v_b u_11 v_rF)) (wr := [(a_wo, .inr (10, [.ref a_mc, .ref a_ins])), (a_ins, .inr (4, [.ref a_mc, .ref a_me, .int v_op, .int v_i, .int v_r, .int v_s, .int v_a, .int v_b]))]) hP hD [2, 3] [0, 1] [0, 1, 2, 3] rfl rfl (by decide) (by decide) hk9 hFc hB9 ht9 (by decide) rfl
    clear hB9 hk9 hz9 hvm9 ht9 hFc hPc hDc
    generalize H1 = H at hP hS ⊢
    refine lv_i2l hx hb dX10_multiply_51 rfl ?_
    refine lv_iload_n hx hb dX10_multiply_52 rfl (lv_at hl 1 rfl) ?_
    refine lv_i2l hx hb dX10_multiply_53 rfl ?_
    refine lv_lmul hx hb dX10_multiply_54 ?_
    have hPc : va_P D vwCl (wX5_setPair cI cB a_mc a_me a_ps a_rg u_11 v_rF) H := hP.sub [2, 3] rfl
    have hDc : va_D A (wX5_setPair cI cB a_mc a_me a_ps a_rg u_11 v_rF) := hD.sub [2, 3] (by decide) rfl
    have hFc := va_free (wc := (wX5_setPair cI cB a_mc a_me a_ps a_rg u_11 v_rF)) hD hS hA [2, 3] rfl
    refine va_callv (va_runV (As := [.int v_r, .long (((r_48 : Int32).toInt64 * (x0 : Int32).toInt64))]) (rest := []) ⟨hx, hb, hml, hown, hts⟩ (kX5_setPair l D cI cB a_mc a_me a_ps a_rg H.size u_11 v_rF v_r ((r_48 : Int32).toInt64 * (x0 : Int32).toInt64)) (cwV 2 hts (gd_V wd_505 wd_415 wd_416 wd_24 wd_374) rfl rfl rfl hdX5_setPair ⟨Nat.le_of_ble_eq_true rfl, Nat.le_of_ble_eq_true rfl⟩) (preV_std (ci := 5) (q0 := 0) hPc hK hDc hNW rfl rfl) rfl rfl hl.1 rfl (lv_room (Nat.le_of_ble_eq_true rfl)) dX10_multiply_55 ⟨Nat.zero_le _, Nat.zero_le _⟩) hS (fun q _ h => hFc q h) hFc (fun u_55 t9 H1 locs ht9 hvm9 hw9 hB9 hz9 hk9 hS => ?_)
    have eu_55 : u_55 = fX5_setPair v_r ((r_48 : Int32).toInt64 * (x0 : Int32).toInt64) v_rF := hw9
    obtain ⟨hP, hD⟩ := back_std (w1 := (wX5_setPair cI cB a_mc a_me a_ps a_rg u_11 u_55)) (w2 := (wX10_multiply cI cB a_wo a_ins a_mc a_me a_ps a_rg v_op v_i v_r v_s v_a v_b u_11 u_55)) (wr := [(a_wo, .inr (10, [.ref a_mc, .ref a_ins])), (a_ins, .inr (4, [.ref a_mc, .ref a_me, .int v_op, .int v_i, .int v_r, .int v_s, .int v_a, .int v_b]))]) hP hD [2, 3] [0, 1] [0, 1, 2, 3] rfl rfl (by decide) (by decide) hk9 hFc hB9 ht9 (by decide) rfl
    clear hB9 hk9 hz9 hvm9 ht9 hFc hPc hDc
    generalize H1 = H at hP hS ⊢
    have hf9 : (u_11, u_55) = fX10_multiply x0 v_r v_fault v_rF := by simp only [fX10_multiply, ← eu_11, ← er_18, ← er_48, ← eu_55, if_neg c_21]
    exact W.vret hx hb hr (fun t9 ht9 hW9 => ⟨⟨(u_11, u_55), rfl, hf9, ⟨by rw [ht9]; exact hP, va_K.moved hW9.alike hK, hD⟩⟩, hS.F ht9⟩) hS.2.2 dX10_multiply_58
theorem hdX10_multiply : yX10_multiply.cls = RX10 ∧ yX10_multiply.cls ≠ "java/lang/invoke/MethodHandle" ∧ yX10_multiply.cls ≠ "java/lang/invoke/VarHandle" ∧ (parseMethodDescriptor yX10_multiply.desc).map (fun d => d.parameters.length) = some 1 := by decide +kernel
noncomputable def fX10_divide (x0 : Int32) (v_r : Int32) (v_fault : Int32) (v_rF : (Nat → Int32)) : (Int32 × (Nat → Int32)) :=
  let u_11 := fX5_demandEven v_r v_fault
  let r_25 := fX5_pair v_r v_rF
  let m_43 : Int64 := (if x0 = 0 then (9223372036854775807) else ((r_25 / (x0 : Int32).toInt64)))
  let m_64 : Int32 := (if (lg_cmp (m_43) (((m_43 : Int64).toInt32 : Int32).toInt64)) = 0 then (u_11) else (let u_61 := fX5_fail 9 u_11; u_61))
  let r_68 := fX5_fine m_64
  if r_68 = 0 then ((m_64, v_rF)) else (let u_93 := fX5_setReg v_r (((r_25 - (m_43 * (x0 : Int32).toInt64)) : Int64).toInt32) v_rF; let u_112 := fX5_setReg (v_r + 1) ((m_43 : Int64).toInt32) u_93; (m_64, u_112))
abbrev wX10_divide (cI cB : ClassId) (a_wo a_ins a_mc a_me a_ps a_rg : Nat) (v_op : Int32) (v_i : Int32) (v_r : Int32) (v_s : Int32) (v_a : Int32) (v_b : Int32) (v_fault : Int32) (v_rF : (Nat → Int32)) : va_W := [(a_wo, .inr (10, [.ref a_mc, .ref a_ins])), (a_ins, .inr (4, [.ref a_mc, .ref a_me, .int v_op, .int v_i, .int v_r, .int v_s, .int v_a, .int v_b])), (a_mc, .inr (5, [.ref a_me, .ref a_ps, .ref a_rg, .int v_fault])), (a_rg, .inl (cI, 16, .inl v_rF))]
abbrev rmX10_divide : Room := { frames := 2, cells := 0, slots := 0, locals := 42 }
abbrev qX10_divide (D : va_G) (cI cB : ClassId) (a_wo a_ins a_mc a_me a_ps a_rg : Nat) (v_op : Int32) (v_i : Int32) (v_r : Int32) (v_s : Int32) (v_a : Int32) (v_b : Int32) (v_fault : Int32) (v_rF : (Nat → Int32)) (x0 : Int32) : (Nat → Prop) → Array Value → State → Outcome → State → Prop := fun A9 => va_Qv (fun (u9 : (Int32 × (Nat → Int32))) => u9 = fX10_divide x0 v_r v_fault v_rF) (fun u9 t9 => atW D (TYS cI cB) A9 (wX10_divide cI cB a_wo a_ins a_mc a_me a_ps a_rg v_op v_i v_r v_s v_a v_b u9.1 u9.2) t9) A9
set_option maxHeartbeats 4000000 in
set_option maxRecDepth 100000 in
theorem kX10_divide (l : Launch) (D : va_G) (cI cB : ClassId) (a_wo a_ins a_mc a_me a_ps a_rg : Nat) (sz : Nat) (v_op : Int32) (v_i : Int32) (v_r : Int32) (v_s : Int32) (v_a : Int32) (v_b : Int32) (v_fault : Int32) (v_rF : (Nat → Int32)) (x0 : Int32) : MetW l yX10_divide (WK yX10_divide cX10_divide 6 none) rmX10_divide D (TYS cI cB) (wX10_divide cI cB a_wo a_ins a_mc a_me a_ps a_rg v_op v_i v_r v_s v_a v_b v_fault v_rF) sz [.ref a_wo, .int x0] (qX10_divide D cI cB a_wo a_ins a_mc a_me a_ps a_rg v_op v_i v_r v_s v_a v_b v_fault v_rF x0) 0 0 := by
  refine met_std (by decide) rfl (Nat.le_of_ble_eq_true rfl) ?_
  intro p e s m below meth c A ls H hx hb hr hml hown hts hlocks hA hP hK hD hS hNW hl
  have hl : lv_has ls 6 [(0, .ref a_wo), (1, .int x0)] := hl
  have q_0 := hts _ (List.mem_cons_of_mem _ wd_485)
  have q_1 := hts _ (List.mem_cons_of_mem _ wd_486)
  have q_2 := hts _ (List.mem_cons_of_mem _ wd_507)
  have n_0 := hNW.f (A := ([.ref a_wo, .int x0] : List Value).toArray) ("MainframeCore$Words", 65, "MainframeCore$Instruction", "\x72", "I", "MainframeCore") (by decide +kernel)
  refine lv_aload_n hx hb dX10_divide_0 rfl (lv_at hl 0 rfl) ?_
  refine va_get (D := D) (ci := 10) (v := .ref a_mc) (C := RX10) (T := TX10) (N := 2) hx hb hts in_X10 hown hK hP 0 rfl rfl 0 (by decide) q_0 (fun _ h9 => h9) rfl dX10_divide_1 ?_
  refine lv_aload_n hx hb dX10_divide_4 rfl (lv_at hl 0 rfl) ?_
  refine va_get (D := D) (ci := 10) (v := .ref a_ins) (C := RX10) (T := TX10) (N := 2) hx hb hts in_X10 hown hK hP 0 rfl rfl 1 (by decide) q_1 (fun _ h9 => h9) rfl dX10_divide_5 ?_
  refine va_getN (D := D) (ci := 4) (v := .int v_r) (C := RX4) (T := TX4) (N := 8) hx hb hts in_X4 hown hK hP 1 rfl rfl 4 (by decide) n_0 (fun _ h9 => h9) rfl dX10_divide_8 ?_
  have hPc : va_P D vwCl (wX5_demandEven cI cB a_mc a_me a_ps a_rg v_fault) H := hP.sub [2] rfl
  have hDc : va_D A (wX5_demandEven cI cB a_mc a_me a_ps a_rg v_fault) := hD.sub [2] (by decide) rfl
  have hFc := va_free (wc := (wX5_demandEven cI cB a_mc a_me a_ps a_rg v_fault)) hD hS hA [2] rfl
  refine va_callv (va_runV (As := [.int v_r]) (rest := []) ⟨hx, hb, hml, hown, hts⟩ (kX5_demandEven l D cI cB a_mc a_me a_ps a_rg H.size v_fault v_r) (cwV 1 hts (gd_V wd_502 wd_423 wd_424 wd_24 wd_375) rfl rfl rfl hdX5_demandEven ⟨Nat.le_of_ble_eq_true rfl, Nat.le_of_ble_eq_true rfl⟩) (preV_std (ci := 5) (q0 := 0) hPc hK hDc hNW rfl rfl) rfl rfl hl.1 rfl (lv_room (Nat.le_of_ble_eq_true rfl)) dX10_divide_11 ⟨Nat.zero_le _, Nat.zero_le _⟩) hS (fun q _ h => hFc q h) hFc (fun u_11 t9 H1 locs ht9 hvm9 hw9 hB9 hz9 hk9 hS => ?_)
  have eu_11 : u_11 = fX5_demandEven v_r v_fault := hw9
  obtain ⟨hP, hD⟩ := back_std (w1 := (wX5_demandEven cI cB a_mc a_me a_ps a_rg u_11)) (w2 := (wX10_divide cI cB a_wo a_ins a_mc a_me a_ps a_rg v_op v_i v_r v_s v_a v_b u_11 v_rF)) (wr := [(a_wo, .inr (10, [.ref a_mc, .ref a_ins])), (a_ins, .inr (4, [.ref a_mc, .ref a_me, .int v_op, .int v_i, .int v_r, .int v_s, .int v_a, .int v_b])), (a_rg, .inl (cI, 16, .inl v_rF))]) hP hD [2] [0, 1, 3] [0, 1, 3, 2] rfl rfl (by decide) (by decide) hk9 hFc hB9 ht9 (by decide) rfl
  clear hB9 hk9 hz9 hvm9 ht9 hFc hPc hDc
  generalize H1 = H at hP hS ⊢
  refine lv_aload_n hx hb dX10_divide_14 rfl (lv_at hl 0 rfl) ?_
  refine va_get (D := D) (ci := 10) (v := .ref a_mc) (C := RX10) (T := TX10) (N := 2) hx hb hts in_X10 hown hK hP 0 rfl rfl 0 (by decide) q_0 (fun _ h9 => h9) rfl dX10_divide_15 ?_
  refine lv_aload_n hx hb dX10_divide_18 rfl (lv_at hl 0 rfl) ?_
  refine va_get (D := D) (ci := 10) (v := .ref a_ins) (C := RX10) (T := TX10) (N := 2) hx hb hts in_X10 hown hK hP 0 rfl rfl 1 (by decide) q_1 (fun _ h9 => h9) rfl dX10_divide_19 ?_
  refine va_getN (D := D) (ci := 4) (v := .int v_r) (C := RX4) (T := TX4) (N := 8) hx hb hts in_X4 hown hK hP 1 rfl rfl 4 (by decide) n_0 (fun _ h9 => h9) rfl dX10_divide_22 ?_
  have hPc : va_P D vwCl (wX5_pair cI cB a_mc a_me a_ps a_rg u_11 v_rF) H := hP.sub [2, 3] rfl
  have hDc : va_D A (wX5_pair cI cB a_mc a_me a_ps a_rg u_11 v_rF) := hD.sub [2, 3] (by decide) rfl
  have hFc := va_free (wc := (wX5_pair cI cB a_mc a_me a_ps a_rg u_11 v_rF)) hD hS hA [2, 3] rfl
  refine va_calll (va_runV (As := [.int v_r]) (rest := []) ⟨hx, hb, hml, hown, hts⟩ (kX5_pair l D cI cB a_mc a_me a_ps a_rg H.size u_11 v_rF v_r) (cwV 1 hts (gd_V wd_508 wd_427 wd_428 wd_24 wd_372) rfl rfl rfl hdX5_pair ⟨Nat.le_of_ble_eq_true rfl, Nat.le_of_ble_eq_true rfl⟩) (preV_std (ci := 5) (q0 := 0) hPc hK hDc hNW rfl rfl) rfl rfl hl.1 rfl (lv_room (Nat.le_of_ble_eq_true rfl)) dX10_divide_25 ⟨Nat.zero_le _, Nat.zero_le _⟩) hS (fun q _ h => hFc q h) hFc (fun r_25 u_25 t9 H1 locs ht9 hvm9 hw9 hB9 hz9 hk9 hS => ?_)
  have er_25 : r_25 = fX5_pair v_r v_rF := hw9
  obtain ⟨hP, hD⟩ := back_std (w1 := (wX5_pair cI cB a_mc a_me a_ps a_rg u_11 v_rF)) (w2 := (wX10_divide cI cB a_wo a_ins a_mc a_me a_ps a_rg v_op v_i v_r v_s v_a v_b u_11 v_rF)) (wr := [(a_wo, .inr (10, [.ref a_mc, .ref a_ins])), (a_ins, .inr (4, [.ref a_mc, .ref a_me, .int v_op, .int v_i, .int v_r, .int v_s, .int v_a, .int v_b]))]) hP hD [2, 3] [0, 1] [0, 1, 2, 3] rfl rfl (by decide) (by decide) hk9 hFc hB9 ht9 (by decide) rfl
  clear hB9 hk9 hz9 hvm9 ht9 hFc hPc hDc
  generalize H1 = H at hP hS ⊢
  refine lv_lstore_n (lv' := [(2, .long r_25), (0, .ref a_wo), (1, .int x0)]) hx hb dX10_divide_28 rfl hl (by decide) rfl (fun ls hl => ?_)
  refine lv_iload_n hx hb dX10_divide_29 rfl (lv_at hl 2 rfl) ?_
  have J_43 : ∀ (m_43 : Int64), m_43 = (if x0 = 0 then (9223372036854775807) else ((r_25 / (x0 : Int32).toInt64))) → ∀ (H : Heap) (locs : List Loc), va_P D vwCl (wX10_divide cI cB a_wo a_ins a_mc a_me a_ps a_rg v_op v_i v_r v_s v_a v_b u_11 v_rF) H → va_D A (wX10_divide cI cB a_wo a_ins a_mc a_me a_ps a_rg v_op v_i v_r v_s v_a v_b u_11 v_rF) → va_S A s.heap H locs → ∀ (ls : Array Slot), lv_has ls 6 [(0, .ref a_wo), (1, .int x0), (2, .long r_25)] → W p l e rmX10_divide s m ([.ref a_wo, .int x0] : List Value).toArray below meth c H locs 0 0 (MQ below (qX10_divide D cI cB a_wo a_ins a_mc a_me a_ps a_rg v_op v_i v_r v_s v_a v_b v_fault v_rF x0 A) ([.ref a_wo, .int x0] : List Value).toArray s 0 0 A) (F0 m 43 ls [.long m_43]) := by
    intro m_43 em_43 H locs hP hD hS ls hl
    refine lv_lstore (lv' := [(4, .long m_43), (0, .ref a_wo), (1, .int x0), (2, .long r_25)]) hx hb dX10_divide_43 hl (by decide) rfl (fun ls hl => ?_)
    refine lv_lload hx hb dX10_divide_45 (lv_at hl 0 rfl) ?_
    refine lv_lload hx hb dX10_divide_47 (lv_at hl 0 rfl) ?_
    refine lv_l2i hx hb dX10_divide_49 rfl ?_
    refine lv_i2l hx hb dX10_divide_50 rfl ?_
    refine W.lcmp hx hb dX10_divide_51 ?_
    have J_64 : ∀ (m_64 : Int32), m_64 = (if (lg_cmp (m_43) (((m_43 : Int64).toInt32 : Int32).toInt64)) = 0 then (u_11) else (let u_61 := fX5_fail 9 u_11; u_61)) → ∀ (H : Heap) (locs : List Loc), va_P D vwCl (wX10_divide cI cB a_wo a_ins a_mc a_me a_ps a_rg v_op v_i v_r v_s v_a v_b m_64 v_rF) H → va_D A (wX10_divide cI cB a_wo a_ins a_mc a_me a_ps a_rg v_op v_i v_r v_s v_a v_b m_64 v_rF) → va_S A s.heap H locs → ∀ (ls : Array Slot), lv_has ls 6 [(0, .ref a_wo), (1, .int x0), (2, .long r_25), (4, .long m_43)] → W p l e rmX10_divide s m ([.ref a_wo, .int x0] : List Value).toArray below meth c H locs 0 0 (MQ below (qX10_divide D cI cB a_wo a_ins a_mc a_me a_ps a_rg v_op v_i v_r v_s v_a v_b v_fault v_rF x0 A) ([.ref a_wo, .int x0] : List Value).toArray s 0 0 A) (F0 m 64 ls []) := by
      intro m_64 em_64 H locs hP hD hS ls hl
      refine lv_aload_n hx hb dX10_divide_64 rfl (lv_at hl 0 rfl) ?_
      refine va_get (D := D) (ci := 10) (v := .ref a_mc) (C := RX10) (T := TX10) (N := 2) hx hb hts in_X10 hown hK hP 0 rfl rfl 0 (by decide) q_0 (fun _ h9 => h9) rfl dX10_divide_65 ?_
      have hPc : va_P D vwCl (wX5_fine cI cB a_mc a_me a_ps a_rg m_64) H := hP.sub [2] rfl
      have hDc : va_D A (wX5_fine cI cB a_mc a_me a_ps a_rg m_64) := hD.sub [2] (by decide) rfl
      have hFc := va_free (wc := (wX5_fine cI cB a_mc a_me a_ps a_rg m_64)) hD hS hA [2] rfl
      refine va_calli (va_runV (As := []) (rest := []) ⟨hx, hb, hml, hown, hts⟩ (kX5_fine l D cI cB a_mc a_me a_ps a_rg H.size m_64 ) (cwV 0 hts (gd_V wd_503 wd_73 wd_74 wd_24 wd_66) rfl rfl rfl hdX5_fine ⟨Nat.le_of_ble_eq_true rfl, Nat.le_of_ble_eq_true rfl⟩) (preV_std (ci := 5) (q0 := 0) hPc hK hDc hNW rfl rfl) rfl rfl hl.1 rfl (lv_room (Nat.le_of_ble_eq_true rfl)) dX10_divide_68 ⟨Nat.zero_le _, Nat.zero_le _⟩) hS (fun q _ h => hFc q h) hFc (fun r_68 u_68 t9 H1 locs ht9 hvm9 hw9 hB9 hz9 hk9 hS => ?_)
      have er_68 : r_68 = fX5_fine m_64 := hw9
      have zr_68 : r_68 = 0 ∨ r_68 = 1 := by rw [er_68]; exact zX5_fine _
      obtain ⟨hP, hD⟩ := back_std (w1 := (wX5_fine cI cB a_mc a_me a_ps a_rg m_64)) (w2 := (wX10_divide cI cB a_wo a_ins a_mc a_me a_ps a_rg v_op v_i v_r v_s v_a v_b m_64 v_rF)) (wr := [(a_wo, .inr (10, [.ref a_mc, .ref a_ins])), (a_ins, .inr (4, [.ref a_mc, .ref a_me, .int v_op, .int v_i, .int v_r, .int v_s, .int v_a, .int v_b])), (a_rg, .inl (cI, 16, .inl v_rF))]) hP hD [2] [0, 1, 3] [0, 1, 3, 2] rfl rfl (by decide) (by decide) hk9 hFc hB9 ht9 (by decide) rfl
      clear hB9 hk9 hz9 hvm9 ht9 hFc hPc hDc
      generalize H1 = H at hP hS ⊢
      refine lv_if_eq (tgt := 115) hx hb dX10_divide_71 (by decide) (fun c_71 => ?_) (fun c_71 => ?_)
      · skip
        have hf9 : (m_64, v_rF) = fX10_divide x0 v_r v_fault v_rF := by subst em_64; subst em_43; simp only [fX10_divide, ← eu_11, ← er_25, ← er_68, if_pos c_71]
        exact W.vret hx hb hr (fun t9 ht9 hW9 => ⟨⟨(m_64, v_rF), rfl, hf9, ⟨by rw [ht9]; exact hP, va_K.moved hW9.alike hK, hD⟩⟩, hS.F ht9⟩) hS.2.2 dX10_divide_115
      · skip
        refine lv_aload_n hx hb dX10_divide_74 rfl (lv_at hl 0 rfl) ?_
        refine va_get (D := D) (ci := 10) (v := .ref a_mc) (C := RX10) (T := TX10) (N := 2) hx hb hts in_X10 hown hK hP 0 rfl rfl 0 (by decide) q_0 (fun _ h9 => h9) rfl dX10_divide_75 ?_
        refine lv_aload_n hx hb dX10_divide_78 rfl (lv_at hl 0 rfl) ?_
        refine va_get (D := D) (ci := 10) (v := .ref a_ins) (C := RX10) (T := TX10) (N := 2) hx hb hts in_X10 hown hK hP 0 rfl rfl 1 (by decide) q_1 (fun _ h9 => h9) rfl dX10_divide_79 ?_
        refine va_getN (D := D) (ci := 4) (v := .int v_r) (C := RX4) (T := TX4) (N := 8) hx hb hts in_X4 hown hK hP 1 rfl rfl 4 (by decide) n_0 (fun _ h9 => h9) rfl dX10_divide_82 ?_
        refine lv_lload_n hx hb dX10_divide_85 rfl (lv_at hl 2 rfl) ?_
        refine lv_lload hx hb dX10_divide_86 (lv_at hl 3 rfl) ?_
        refine lv_iload_n hx hb dX10_divide_88 rfl (lv_at hl 1 rfl) ?_
        refine lv_i2l hx hb dX10_divide_89 rfl ?_
        refine lv_lmul hx hb dX10_divide_90 ?_
        refine lv_lsub hx hb dX10_divide_91 ?_
        refine lv_l2i hx hb dX10_divide_92 rfl ?_
        have hPc : va_P D vwCl (wX5_setReg cI cB a_mc a_me a_ps a_rg m_64 v_rF) H := hP.sub [2, 3] rfl
        have hDc : va_D A (wX5_setReg cI cB a_mc a_me a_ps a_rg m_64 v_rF) := hD.sub [2, 3] (by decide) rfl
        have hFc := va_free (wc := (wX5_setReg cI cB a_mc a_me a_ps a_rg m_64 v_rF)) hD hS hA [2, 3] rfl
        refine va_callv (va_runV (As := [.int v_r, .int (((r_25 - (m_43 * (x0 : Int32).toInt64)) : Int64).toInt32)]) (rest := []) ⟨hx, hb, hml, hown, hts⟩ (kX5_setReg l D cI cB a_mc a_me a_ps a_rg H.size m_64 v_rF v_r (((r_25 - (m_43 * (x0 : Int32).toInt64)) : Int64).toInt32)) (cwV 2 hts (gd_V wd_487 wd_22 wd_23 wd_24 wd_6) rfl rfl rfl hdX5_setReg ⟨Nat.le_of_ble_eq_true rfl, Nat.le_of_ble_eq_true rfl⟩) (preV_std (ci := 5) (q0 := 0) hPc hK hDc hNW rfl rfl) rfl rfl hl.1 rfl (lv_room (Nat.le_of_ble_eq_true rfl)) dX10_divide_93 ⟨Nat.zero_le _, Nat.zero_le _⟩) hS (fun q _ h => hFc q h) hFc (fun u_93 t9 H1 locs ht9 hvm9 hw9 hB9 hz9 hk9 hS => ?_)
        have eu_93 : u_93 = fX5_setReg v_r (((r_25 - (m_43 * (x0 : Int32).toInt64)) : Int64).toInt32) v_rF := hw9
        obtain ⟨hP, hD⟩ := back_std (w1 := (wX5_setReg cI cB a_mc a_me a_ps a_rg m_64 u_93)) (w2 := (wX10_divide cI cB a_wo a_ins a_mc a_me a_ps a_rg v_op v_i v_r v_s v_a v_b m_64 u_93)) (wr := [(a_wo, .inr (10, [.ref a_mc, .ref a_ins])), (a_ins, .inr (4, [.ref a_mc, .ref a_me, .int v_op, .int v_i, .int v_r, .int v_s, .int v_a, .int v_b]))]) hP hD [2, 3] [0, 1] [0, 1, 2, 3] rfl rfl (by decide) (by decide) hk9 hFc hB9 ht9 (by decide) rfl
        clear hB9 hk9 hz9 hvm9 ht9 hFc hPc hDc
        generalize H1 = H at hP hS ⊢
        refine lv_aload_n hx hb dX10_divide_96 rfl (lv_at hl 0 rfl) ?_
        refine va_get (D := D) (ci := 10) (v := .ref a_mc) (C := RX10) (T := TX10) (N := 2) hx hb hts in_X10 hown hK hP 0 rfl rfl 0 (by decide) q_0 (fun _ h9 => h9) rfl dX10_divide_97 ?_
        refine lv_aload_n hx hb dX10_divide_100 rfl (lv_at hl 0 rfl) ?_
        refine va_get (D := D) (ci := 10) (v := .ref a_ins) (C := RX10) (T := TX10) (N := 2) hx hb hts in_X10 hown hK hP 0 rfl rfl 1 (by decide) q_1 (fun _ h9 => h9) rfl dX10_divide_101 ?_
        refine va_getN (D := D) (ci := 4) (v := .int v_r) (C := RX4) (T := TX4) (N := 8) hx hb hts in_X4 hown hK hP 1 rfl rfl 4 (by decide) n_0 (fun _ h9 => h9) rfl dX10_divide_104 ?_
        refine lv_iconst (v := 1) hx hb dX10_divide_107 (by decide) ?_
        refine lv_iadd hx hb dX10_divide_108 ?_
        refine lv_lload hx hb dX10_divide_109 (lv_at hl 3 rfl) ?_
        refine lv_l2i hx hb dX10_divide_111 rfl ?_
        have hPc : va_P D vwCl (wX5_setReg cI cB a_mc a_me a_ps a_rg m_64 u_93) H := hP.sub [2, 3] rfl
        have hDc : va_D A (wX5_setReg cI cB a_mc a_me a_ps a_rg m_64 u_93) := hD.sub [2, 3] (by decide) rfl
        have hFc := va_free (wc := (wX5_setReg cI cB a_mc a_me a_ps a_rg m_64 u_93)) hD hS hA [2, 3] rfl
        refine va_callv (va_runV (As := [.int (v_r + 1), .int (m_43 : Int64).toInt32]) (rest := []) ⟨hx, hb, hml, hown, hts⟩ (kX5_setReg l D cI cB a_mc a_me a_ps a_rg H.size m_64 u_93 (v_r + 1) ((m_43 : Int64).toInt32)) (cwV 2 hts (gd_V wd_487 wd_22 wd_23 wd_24 wd_6) rfl rfl rfl hdX5_setReg ⟨Nat.le_of_ble_eq_true rfl, Nat.le_of_ble_eq_true rfl⟩) (preV_std (ci := 5) (q0 := 0) hPc hK hDc hNW rfl rfl) rfl rfl hl.1 rfl (lv_room (Nat.le_of_ble_eq_true rfl)) dX10_divide_112 ⟨Nat.zero_le _, Nat.zero_le _⟩) hS (fun q _ h => hFc q h) hFc (fun u_112 t9 H1 locs ht9 hvm9 hw9 hB9 hz9 hk9 hS => ?_)
        have eu_112 : u_112 = fX5_setReg (v_r + 1) ((m_43 : Int64).toInt32) u_93 := hw9
        obtain ⟨hP, hD⟩ := back_std (w1 := (wX5_setReg cI cB a_mc a_me a_ps a_rg m_64 u_112)) (w2 := (wX10_divide cI cB a_wo a_ins a_mc a_me a_ps a_rg v_op v_i v_r v_s v_a v_b m_64 u_112)) (wr := [(a_wo, .inr (10, [.ref a_mc, .ref a_ins])), (a_ins, .inr (4, [.ref a_mc, .ref a_me, .int v_op, .int v_i, .int v_r, .int v_s, .int v_a, .int v_b]))]) hP hD [2, 3] [0, 1] [0, 1, 2, 3] rfl rfl (by decide) (by decide) hk9 hFc hB9 ht9 (by decide) rfl
        clear hB9 hk9 hz9 hvm9 ht9 hFc hPc hDc
        generalize H1 = H at hP hS ⊢
        have hf9 : (m_64, u_112) = fX10_divide x0 v_r v_fault v_rF := by subst em_64; subst em_43; simp only [fX10_divide, ← eu_11, ← er_25, ← er_68, ← eu_93, ← eu_112, if_neg c_71]
        exact W.vret hx hb hr (fun t9 ht9 hW9 => ⟨⟨(m_64, u_112), rfl, hf9, ⟨by rw [ht9]; exact hP, va_K.moved hW9.alike hK, hD⟩⟩, hS.F ht9⟩) hS.2.2 dX10_divide_115
    refine lv_if_eq (tgt := 64) hx hb dX10_divide_52 (by decide) (fun c_52 => ?_) (fun c_52 => ?_)
    · skip
      exact J_64 u_11 (by simp only [if_pos c_52]) _ _ hP hD hS ls (lv_sub hl [1, 2, 3, 0] rfl)
    · skip
      refine lv_aload_n hx hb dX10_divide_55 rfl (lv_at hl 1 rfl) ?_
      refine va_get (D := D) (ci := 10) (v := .ref a_mc) (C := RX10) (T := TX10) (N := 2) hx hb hts in_X10 hown hK hP 0 rfl rfl 0 (by decide) q_0 (fun _ h9 => h9) rfl dX10_divide_56 ?_
      refine lv_bipush (v := 9) hx hb dX10_divide_59 (by decide) ?_
      have hPc : va_P D vwCl (wX5_fail cI cB a_mc a_me a_ps a_rg u_11) H := hP.sub [2] rfl
      have hDc : va_D A (wX5_fail cI cB a_mc a_me a_ps a_rg u_11) := hD.sub [2] (by decide) rfl
      have hFc := va_free (wc := (wX5_fail cI cB a_mc a_me a_ps a_rg u_11)) hD hS hA [2] rfl
      refine va_callv (va_runV (As := [.int 9]) (rest := []) ⟨hx, hb, hml, hown, hts⟩ (kX5_fail l D cI cB a_mc a_me a_ps a_rg H.size u_11 9) (cwV 1 hts (gd_V wd_509 wd_54 wd_55 wd_24 wd_46) rfl rfl rfl hdX5_fail ⟨Nat.le_of_ble_eq_true rfl, Nat.le_of_ble_eq_true rfl⟩) (preV_std (ci := 5) (q0 := 0) hPc hK hDc hNW rfl rfl) rfl rfl hl.1 rfl (lv_room (Nat.le_of_ble_eq_true rfl)) dX10_divide_61 ⟨Nat.zero_le _, Nat.zero_le _⟩) hS (fun q _ h => hFc q h) hFc (fun u_61 t9 H1 locs ht9 hvm9 hw9 hB9 hz9 hk9 hS => ?_)
      have eu_61 : u_61 = fX5_fail 9 u_11 := hw9
      obtain ⟨hP, hD⟩ := back_std (w1 := (wX5_fail cI cB a_mc a_me a_ps a_rg u_61)) (w2 := (wX10_divide cI cB a_wo a_ins a_mc a_me a_ps a_rg v_op v_i v_r v_s v_a v_b u_61 v_rF)) (wr := [(a_wo, .inr (10, [.ref a_mc, .ref a_ins])), (a_ins, .inr (4, [.ref a_mc, .ref a_me, .int v_op, .int v_i, .int v_r, .int v_s, .int v_a, .int v_b])), (a_rg, .inl (cI, 16, .inl v_rF))]) hP hD [2] [0, 1, 3] [0, 1, 3, 2] rfl rfl (by decide) (by decide) hk9 hFc hB9 ht9 (by decide) rfl
      clear hB9 hk9 hz9 hvm9 ht9 hFc hPc hDc
      generalize H1 = H at hP hS ⊢
      exact J_64 u_61 (by simp only [← eu_61, if_neg c_52]) _ _ hP hD hS ls (lv_sub hl [1, 2, 3, 0] rfl)
  refine lv_if_ne (tgt := 39) hx hb dX10_divide_30 (by decide) (fun c_30 => ?_) (fun c_30 => ?_)
  · skip
    refine lv_lload_n hx hb dX10_divide_39 rfl (lv_at hl 0 rfl) ?_
    refine lv_iload_n hx hb dX10_divide_40 rfl (lv_at hl 2 rfl) ?_
    refine lv_i2l hx hb dX10_divide_41 rfl ?_
    refine lv_ldiv hx hb dX10_divide_42 (ne64 (by assumption)) ?_
    exact J_43 (r_25 / (x0 : Int32).toInt64) (by simp only [if_neg c_30]) _ _ hP hD hS ls (lv_sub hl [1, 2, 0] rfl)
  · skip
    refine lv_ldc2 (v := 9223372036854775807) hx hb hown q_2 dX10_divide_33 ?_
    refine lv_goto (tgt := 43) hx hb dX10_divide_36 (by decide) ?_
    exact J_43 9223372036854775807 (by simp only [if_pos c_30]) _ _ hP hD hS ls (lv_sub hl [1, 2, 0] rfl)
theorem hdX10_divide : yX10_divide.cls = RX10 ∧ yX10_divide.cls ≠ "java/lang/invoke/MethodHandle" ∧ yX10_divide.cls ≠ "java/lang/invoke/VarHandle" ∧ (parseMethodDescriptor yX10_divide.desc).map (fun d => d.parameters.length) = some 1 := by decide +kernel
noncomputable def fX10_combine (x0 : Int32) (v_op : Int32) (v_r : Int32) (v_fault : Int32) (v_word : Int64) (v_rF : (Nat → Int32)) : (Int32 × Int64 × (Nat → Int32)) :=
  let r_11 := fX5_reg v_r v_rF
  if (v_op &&& 15) = 4 then (let u_88 := fX10_bits (r_11 &&& x0) v_r v_word v_rF; (v_fault, u_88.1, u_88.2)) else (if (v_op &&& 15) = 5 then (let u_110 := fX5_conditionByComparing ((r_11 : Int32).toInt64 &&& 4294967295) ((x0 : Int32).toInt64 &&& 4294967295) v_word; (v_fault, u_110, v_rF)) else (if (v_op &&& 15) = 6 then (let u_120 := fX10_bits (r_11 ||| x0) v_r v_word v_rF; (v_fault, u_120.1, u_120.2)) else (if (v_op &&& 15) = 7 then (let u_130 := fX10_bits (r_11 ^^^ x0) v_r v_word v_rF; (v_fault, u_130.1, u_130.2)) else (if (v_op &&& 15) = 8 then (let u_148 := fX5_setReg v_r x0 v_rF; (v_fault, v_word, u_148)) else (if (v_op &&& 15) = 9 then (let u_162 := fX5_conditionByComparing ((r_11 : Int32).toInt64) ((x0 : Int32).toInt64) v_word; (v_fault, u_162, v_rF)) else (if (v_op &&& 15) = 10 then (let u_174 := fX10_signed ((r_11 : Int32).toInt64 + (x0 : Int32).toInt64) v_r v_fault v_word v_rF; (u_174.1, u_174.2.1, u_174.2.2)) else (if (v_op &&& 15) = 11 then (let u_186 := fX10_signed ((r_11 : Int32).toInt64 - (x0 : Int32).toInt64) v_r v_fault v_word v_rF; (u_186.1, u_186.2.1, u_186.2.2)) else (if (v_op &&& 15) = 12 then (let u_194 := fX10_multiply x0 v_r v_fault v_rF; (u_194.1, v_word, u_194.2)) else (if (v_op &&& 15) = 13 then (let u_202 := fX10_divide x0 v_r v_fault v_rF; (u_202.1, v_word, u_202.2)) else (if (v_op &&& 15) = 14 then (let u_222 := fX10_unsigned (((r_11 : Int32).toInt64 &&& 4294967295) + ((x0 : Int32).toInt64 &&& 4294967295)) v_r v_word v_rF; (v_fault, u_222.1, u_222.2)) else (let u_246 := fX10_unsigned ((((r_11 : Int32).toInt64 &&& 4294967295) + (((x0 ^^^ (-1)) : Int32).toInt64 &&& 4294967295)) + 1) v_r v_word v_rF; (v_fault, u_246.1, u_246.2))))))))))))
abbrev wX10_combine (cI cB : ClassId) (a_wo a_ins a_mc a_me a_ps a_rg : Nat) (v_op : Int32) (v_i : Int32) (v_r : Int32) (v_s : Int32) (v_a : Int32) (v_b : Int32) (v_fault : Int32) (v_word : Int64) (v_rF : (Nat → Int32)) : va_W := [(a_wo, .inr (10, [.ref a_mc, .ref a_ins])), (a_ins, .inr (4, [.ref a_mc, .ref a_me, .int v_op, .int v_i, .int v_r, .int v_s, .int v_a, .int v_b])), (a_mc, .inr (5, [.ref a_me, .ref a_ps, .ref a_rg, .int v_fault])), (a_ps, .inr (7, [.long v_word])), (a_rg, .inl (cI, 16, .inl v_rF))]
abbrev rmX10_combine : Room := { frames := 3, cells := 0, slots := 0, locals := 67 }
abbrev qX10_combine (D : va_G) (cI cB : ClassId) (a_wo a_ins a_mc a_me a_ps a_rg : Nat) (v_op : Int32) (v_i : Int32) (v_r : Int32) (v_s : Int32) (v_a : Int32) (v_b : Int32) (v_fault : Int32) (v_word : Int64) (v_rF : (Nat → Int32)) (x0 : Int32) : (Nat → Prop) → Array Value → State → Outcome → State → Prop := fun A9 => va_Qv (fun (u9 : (Int32 × Int64 × (Nat → Int32))) => u9 = fX10_combine x0 v_op v_r v_fault v_word v_rF) (fun u9 t9 => atW D (TYS cI cB) A9 (wX10_combine cI cB a_wo a_ins a_mc a_me a_ps a_rg v_op v_i v_r v_s v_a v_b u9.1 u9.2.1 u9.2.2) t9) A9
set_option maxHeartbeats 4000000 in
set_option maxRecDepth 100000 in
theorem kX10_combine (l : Launch) (D : va_G) (cI cB : ClassId) (a_wo a_ins a_mc a_me a_ps a_rg : Nat) (sz : Nat) (v_op : Int32) (v_i : Int32) (v_r : Int32) (v_s : Int32) (v_a : Int32) (v_b : Int32) (v_fault : Int32) (v_word : Int64) (v_rF : (Nat → Int32)) (x0 : Int32) : MetW l yX10_combine (WK yX10_combine cX10_combine 3 none) rmX10_combine D (TYS cI cB) (wX10_combine cI cB a_wo a_ins a_mc a_me a_ps a_rg v_op v_i v_r v_s v_a v_b v_fault v_word v_rF) sz [.ref a_wo, .int x0] (qX10_combine D cI cB a_wo a_ins a_mc a_me a_ps a_rg v_op v_i v_r v_s v_a v_b v_fault v_word v_rF x0) 0 0 := by
  refine met_std (by decide) rfl (Nat.le_of_ble_eq_true rfl) ?_
  intro p e s m below meth c A ls H hx hb hr hml hown hts hlocks hA hP hK hD hS hNW hl
  have hl : lv_has ls 3 [(0, .ref a_wo), (1, .int x0)] := hl
  have q_0 := hts _ (List.mem_cons_of_mem _ wd_485)
  have q_1 := hts _ (List.mem_cons_of_mem _ wd_486)
  have q_2 := hts _ (List.mem_cons_of_mem _ wd_512)
  have n_0 := hNW.f (A := ([.ref a_wo, .int x0] : List Value).toArray) ("MainframeCore$Words", 65, "MainframeCore$Instruction", "\x72", "I", "MainframeCore") (by decide +kernel)
  have n_1 := hNW.f (A := ([.ref a_wo, .int x0] : List Value).toArray) ("MainframeCore$Words", 19, "MainframeCore$Instruction", "operation", "I", "MainframeCore") (by decide +kernel)
  refine lv_aload_n hx hb dX10_combine_0 rfl (lv_at hl 0 rfl) ?_
  refine va_get (D := D) (ci := 10) (v := .ref a_mc) (C := RX10) (T := TX10) (N := 2) hx hb hts in_X10 hown hK hP 0 rfl rfl 0 (by decide) q_0 (fun _ h9 => h9) rfl dX10_combine_1 ?_
  refine lv_aload_n hx hb dX10_combine_4 rfl (lv_at hl 0 rfl) ?_
  refine va_get (D := D) (ci := 10) (v := .ref a_ins) (C := RX10) (T := TX10) (N := 2) hx hb hts in_X10 hown hK hP 0 rfl rfl 1 (by decide) q_1 (fun _ h9 => h9) rfl dX10_combine_5 ?_
  refine va_getN (D := D) (ci := 4) (v := .int v_r) (C := RX4) (T := TX4) (N := 8) hx hb hts in_X4 hown hK hP 1 rfl rfl 4 (by decide) n_0 (fun _ h9 => h9) rfl dX10_combine_8 ?_
  have hPc : va_P D vwCl (wX5_reg cI cB a_mc a_me a_ps a_rg v_fault v_rF) H := hP.sub [2, 4] rfl
  have hDc : va_D A (wX5_reg cI cB a_mc a_me a_ps a_rg v_fault v_rF) := hD.sub [2, 4] (by decide) rfl
  have hFc := va_free (wc := (wX5_reg cI cB a_mc a_me a_ps a_rg v_fault v_rF)) hD hS hA [2, 4] rfl
  refine va_calli (va_runV (As := [.int v_r]) (rest := []) ⟨hx, hb, hml, hown, hts⟩ (kX5_reg l D cI cB a_mc a_me a_ps a_rg H.size v_fault v_rF v_r) (cwV 1 hts (gd_V wd_504 wd_31 wd_32 wd_24 wd_29) rfl rfl rfl hdX5_reg ⟨Nat.le_of_ble_eq_true rfl, Nat.le_of_ble_eq_true rfl⟩) (preV_std (ci := 5) (q0 := 0) hPc hK hDc hNW rfl rfl) rfl rfl hl.1 rfl (lv_room (Nat.le_of_ble_eq_true rfl)) dX10_combine_11 ⟨Nat.zero_le _, Nat.zero_le _⟩) hS (fun q _ h => hFc q h) hFc (fun r_11 u_11 t9 H1 locs ht9 hvm9 hw9 hB9 hz9 hk9 hS => ?_)
  have er_11 : r_11 = fX5_reg v_r v_rF := hw9
  obtain ⟨hP, hD⟩ := back_std (w1 := (wX5_reg cI cB a_mc a_me a_ps a_rg v_fault v_rF)) (w2 := (wX10_combine cI cB a_wo a_ins a_mc a_me a_ps a_rg v_op v_i v_r v_s v_a v_b v_fault v_word v_rF)) (wr := [(a_wo, .inr (10, [.ref a_mc, .ref a_ins])), (a_ins, .inr (4, [.ref a_mc, .ref a_me, .int v_op, .int v_i, .int v_r, .int v_s, .int v_a, .int v_b])), (a_ps, .inr (7, [.long v_word]))]) hP hD [2, 4] [0, 1, 3] [0, 1, 3, 2, 4] rfl rfl (by decide) (by decide) hk9 hFc hB9 ht9 (by decide) rfl
  clear hB9 hk9 hz9 hvm9 ht9 hFc hPc hDc
  generalize H1 = H at hP hS ⊢
  refine lv_istore_n (lv' := [(2, .int r_11), (0, .ref a_wo), (1, .int x0)]) hx hb dX10_combine_14 rfl hl (by decide) rfl (fun ls hl => ?_)
  refine lv_aload_n hx hb dX10_combine_15 rfl (lv_at hl 1 rfl) ?_
  refine va_get (D := D) (ci := 10) (v := .ref a_ins) (C := RX10) (T := TX10) (N := 2) hx hb hts in_X10 hown hK hP 0 rfl rfl 1 (by decide) q_1 (fun _ h9 => h9) rfl dX10_combine_16 ?_
  refine va_getN (D := D) (ci := 4) (v := .int v_op) (C := RX4) (T := TX4) (N := 8) hx hb hts in_X4 hown hK hP 1 rfl rfl 2 (by decide) n_1 (fun _ h9 => h9) rfl dX10_combine_19 ?_
  refine lv_bipush (v := 15) hx hb dX10_combine_22 (by decide) ?_
  refine lv_iand hx hb dX10_combine_24 ?_
  by_cases c_25_0 : (v_op &&& 15) = 4
  · skip
    refine lv_tableIn (tgt := 84) (off := 59) hx hb dX10_combine_25 (by rw [c_25_0]; decide) (by rw [c_25_0]; decide) (by rw [c_25_0]; rfl) (by decide) ?_
    refine lv_aload_n hx hb dX10_combine_84 rfl (lv_at hl 1 rfl) ?_
    refine lv_iload_n hx hb dX10_combine_85 rfl (lv_at hl 0 rfl) ?_
    refine lv_iload_n hx hb dX10_combine_86 rfl (lv_at hl 2 rfl) ?_
    refine lv_iand hx hb dX10_combine_87 ?_
    have hPc : va_P D vwCl (wX10_bits cI cB a_wo a_ins a_mc a_me a_ps a_rg v_op v_i v_r v_s v_a v_b v_fault v_word v_rF) H := hP.sub [0, 1, 2, 3, 4] rfl
    have hDc : va_D A (wX10_bits cI cB a_wo a_ins a_mc a_me a_ps a_rg v_op v_i v_r v_s v_a v_b v_fault v_word v_rF) := hD.sub [0, 1, 2, 3, 4] (by decide) rfl
    have hFc := va_free (wc := (wX10_bits cI cB a_wo a_ins a_mc a_me a_ps a_rg v_op v_i v_r v_s v_a v_b v_fault v_word v_rF)) hD hS hA [0, 1, 2, 3, 4] rfl
    refine va_callv (va_runV (As := [.int (r_11 &&& x0)]) (rest := []) ⟨hx, hb, hml, hown, hts⟩ (kX10_bits l D cI cB a_wo a_ins a_mc a_me a_ps a_rg H.size v_op v_i v_r v_s v_a v_b v_fault v_word v_rF (r_11 &&& x0)) (cwV 1 hts (gd_V wd_514 wd_515 wd_516 wd_495 wd_500) rfl rfl rfl hdX10_bits ⟨Nat.le_of_ble_eq_true rfl, Nat.le_of_ble_eq_true rfl⟩) (preV_std (ci := 10) (q0 := 0) hPc hK hDc hNW rfl rfl) rfl rfl hl.1 rfl (lv_room (Nat.le_of_ble_eq_true rfl)) dX10_combine_88 ⟨Nat.zero_le _, Nat.zero_le _⟩) hS (fun q _ h => hFc q h) hFc (fun u_88 t9 H1 locs ht9 hvm9 hw9 hB9 hz9 hk9 hS => ?_)
    have eu_88 : u_88 = fX10_bits (r_11 &&& x0) v_r v_word v_rF := hw9
    obtain ⟨hP, hD⟩ := back_std (w1 := (wX10_bits cI cB a_wo a_ins a_mc a_me a_ps a_rg v_op v_i v_r v_s v_a v_b v_fault u_88.1 u_88.2)) (w2 := (wX10_combine cI cB a_wo a_ins a_mc a_me a_ps a_rg v_op v_i v_r v_s v_a v_b v_fault u_88.1 u_88.2)) (wr := []) hP hD [0, 1, 2, 3, 4] [] [0, 1, 2, 3, 4] rfl rfl (by decide) (by decide) hk9 hFc hB9 ht9 (by decide) rfl
    clear hB9 hk9 hz9 hvm9 ht9 hFc hPc hDc
    generalize H1 = H at hP hS ⊢
    refine lv_goto (tgt := 249) hx hb dX10_combine_91 (by decide) ?_
    have hf9 : (v_fault, u_88.1, u_88.2) = fX10_combine x0 v_op v_r v_fault v_word v_rF := by simp only [fX10_combine, ← er_11, ← eu_88, if_pos c_25_0]
    exact W.vret hx hb hr (fun t9 ht9 hW9 => ⟨⟨(v_fault, u_88.1, u_88.2), rfl, hf9, ⟨by rw [ht9]; exact hP, va_K.moved hW9.alike hK, hD⟩⟩, hS.F ht9⟩) hS.2.2 dX10_combine_249
  · skip
    by_cases c_25_1 : (v_op &&& 15) = 5
    · skip
      refine lv_tableIn (tgt := 94) (off := 69) hx hb dX10_combine_25 (by rw [c_25_1]; decide) (by rw [c_25_1]; decide) (by rw [c_25_1]; rfl) (by decide) ?_
      refine lv_aload_n hx hb dX10_combine_94 rfl (lv_at hl 1 rfl) ?_
      refine va_get (D := D) (ci := 10) (v := .ref a_mc) (C := RX10) (T := TX10) (N := 2) hx hb hts in_X10 hown hK hP 0 rfl rfl 0 (by decide) q_0 (fun _ h9 => h9) rfl dX10_combine_95 ?_
      refine lv_iload_n hx hb dX10_combine_98 rfl (lv_at hl 0 rfl) ?_
      refine lv_i2l hx hb dX10_combine_99 rfl ?_
      refine lv_ldc2 (v := 4294967295) hx hb hown q_2 dX10_combine_100 ?_
      refine lv_land hx hb dX10_combine_103 ?_
      refine lv_iload_n hx hb dX10_combine_104 rfl (lv_at hl 2 rfl) ?_
      refine lv_i2l hx hb dX10_combine_105 rfl ?_
      refine lv_ldc2 (v := 4294967295) hx hb hown q_2 dX10_combine_106 ?_
      refine lv_land hx hb dX10_combine_109 ?_
      have hPc : va_P D vwCl (wX5_conditionByComparing cI cB a_mc a_me a_ps a_rg v_fault v_word) H := hP.sub [2, 3] rfl
      have hDc : va_D A (wX5_conditionByComparing cI cB a_mc a_me a_ps a_rg v_fault v_word) := hD.sub [2, 3] (by decide) rfl
      have hFc := va_free (wc := (wX5_conditionByComparing cI cB a_mc a_me a_ps a_rg v_fault v_word)) hD hS hA [2, 3] rfl
      refine va_callv (va_runV (As := [.long (((r_11 : Int32).toInt64 &&& 4294967295)), .long (((x0 : Int32).toInt64 &&& 4294967295))]) (rest := []) ⟨hx, hb, hml, hown, hts⟩ (kX5_conditionByComparing l D cI cB a_mc a_me a_ps a_rg H.size v_fault v_word ((r_11 : Int32).toInt64 &&& 4294967295) ((x0 : Int32).toInt64 &&& 4294967295)) (cwV 2 hts (gd_V wd_517 wd_442 wd_443 wd_24 wd_376) rfl rfl rfl hdX5_conditionByComparing ⟨Nat.le_of_ble_eq_true rfl, Nat.le_of_ble_eq_true rfl⟩) (preV_std (ci := 5) (q0 := 0) hPc hK hDc hNW rfl rfl) rfl rfl hl.1 rfl (lv_room (Nat.le_of_ble_eq_true rfl)) dX10_combine_110 ⟨Nat.zero_le _, Nat.zero_le _⟩) hS (fun q _ h => hFc q h) hFc (fun u_110 t9 H1 locs ht9 hvm9 hw9 hB9 hz9 hk9 hS => ?_)
      have eu_110 : u_110 = fX5_conditionByComparing ((r_11 : Int32).toInt64 &&& 4294967295) ((x0 : Int32).toInt64 &&& 4294967295) v_word := hw9
      obtain ⟨hP, hD⟩ := back_std (w1 := (wX5_conditionByComparing cI cB a_mc a_me a_ps a_rg v_fault u_110)) (w2 := (wX10_combine cI cB a_wo a_ins a_mc a_me a_ps a_rg v_op v_i v_r v_s v_a v_b v_fault u_110 v_rF)) (wr := [(a_wo, .inr (10, [.ref a_mc, .ref a_ins])), (a_ins, .inr (4, [.ref a_mc, .ref a_me, .int v_op, .int v_i, .int v_r, .int v_s, .int v_a, .int v_b])), (a_rg, .inl (cI, 16, .inl v_rF))]) hP hD [2, 3] [0, 1, 4] [0, 1, 3, 4, 2] rfl rfl (by decide) (by decide) hk9 hFc hB9 ht9 (by decide) rfl
      clear hB9 hk9 hz9 hvm9 ht9 hFc hPc hDc
      generalize H1 = H at hP hS ⊢
      refine lv_goto (tgt := 249) hx hb dX10_combine_113 (by decide) ?_
      have hf9 : (v_fault, u_110, v_rF) = fX10_combine x0 v_op v_r v_fault v_word v_rF := by simp only [fX10_combine, ← er_11, ← eu_110, if_neg c_25_0, if_pos c_25_1]
      exact W.vret hx hb hr (fun t9 ht9 hW9 => ⟨⟨(v_fault, u_110, v_rF), rfl, hf9, ⟨by rw [ht9]; exact hP, va_K.moved hW9.alike hK, hD⟩⟩, hS.F ht9⟩) hS.2.2 dX10_combine_249
    · skip
      by_cases c_25_2 : (v_op &&& 15) = 6
      · skip
        refine lv_tableIn (tgt := 116) (off := 91) hx hb dX10_combine_25 (by rw [c_25_2]; decide) (by rw [c_25_2]; decide) (by rw [c_25_2]; rfl) (by decide) ?_
        refine lv_aload_n hx hb dX10_combine_116 rfl (lv_at hl 1 rfl) ?_
        refine lv_iload_n hx hb dX10_combine_117 rfl (lv_at hl 0 rfl) ?_
        refine lv_iload_n hx hb dX10_combine_118 rfl (lv_at hl 2 rfl) ?_
        refine lv_ior hx hb dX10_combine_119 ?_
        have hPc : va_P D vwCl (wX10_bits cI cB a_wo a_ins a_mc a_me a_ps a_rg v_op v_i v_r v_s v_a v_b v_fault v_word v_rF) H := hP.sub [0, 1, 2, 3, 4] rfl
        have hDc : va_D A (wX10_bits cI cB a_wo a_ins a_mc a_me a_ps a_rg v_op v_i v_r v_s v_a v_b v_fault v_word v_rF) := hD.sub [0, 1, 2, 3, 4] (by decide) rfl
        have hFc := va_free (wc := (wX10_bits cI cB a_wo a_ins a_mc a_me a_ps a_rg v_op v_i v_r v_s v_a v_b v_fault v_word v_rF)) hD hS hA [0, 1, 2, 3, 4] rfl
        refine va_callv (va_runV (As := [.int (r_11 ||| x0)]) (rest := []) ⟨hx, hb, hml, hown, hts⟩ (kX10_bits l D cI cB a_wo a_ins a_mc a_me a_ps a_rg H.size v_op v_i v_r v_s v_a v_b v_fault v_word v_rF (r_11 ||| x0)) (cwV 1 hts (gd_V wd_514 wd_515 wd_516 wd_495 wd_500) rfl rfl rfl hdX10_bits ⟨Nat.le_of_ble_eq_true rfl, Nat.le_of_ble_eq_true rfl⟩) (preV_std (ci := 10) (q0 := 0) hPc hK hDc hNW rfl rfl) rfl rfl hl.1 rfl (lv_room (Nat.le_of_ble_eq_true rfl)) dX10_combine_120 ⟨Nat.zero_le _, Nat.zero_le _⟩) hS (fun q _ h => hFc q h) hFc (fun u_120 t9 H1 locs ht9 hvm9 hw9 hB9 hz9 hk9 hS => ?_)
        have eu_120 : u_120 = fX10_bits (r_11 ||| x0) v_r v_word v_rF := hw9
        obtain ⟨hP, hD⟩ := back_std (w1 := (wX10_bits cI cB a_wo a_ins a_mc a_me a_ps a_rg v_op v_i v_r v_s v_a v_b v_fault u_120.1 u_120.2)) (w2 := (wX10_combine cI cB a_wo a_ins a_mc a_me a_ps a_rg v_op v_i v_r v_s v_a v_b v_fault u_120.1 u_120.2)) (wr := []) hP hD [0, 1, 2, 3, 4] [] [0, 1, 2, 3, 4] rfl rfl (by decide) (by decide) hk9 hFc hB9 ht9 (by decide) rfl
        clear hB9 hk9 hz9 hvm9 ht9 hFc hPc hDc
        generalize H1 = H at hP hS ⊢
        refine lv_goto (tgt := 249) hx hb dX10_combine_123 (by decide) ?_
        have hf9 : (v_fault, u_120.1, u_120.2) = fX10_combine x0 v_op v_r v_fault v_word v_rF := by simp only [fX10_combine, ← er_11, ← eu_120, if_neg c_25_0, if_neg c_25_1, if_pos c_25_2]
        exact W.vret hx hb hr (fun t9 ht9 hW9 => ⟨⟨(v_fault, u_120.1, u_120.2), rfl, hf9, ⟨by rw [ht9]; exact hP, va_K.moved hW9.alike hK, hD⟩⟩, hS.F ht9⟩) hS.2.2 dX10_combine_249
      · skip
        by_cases c_25_3 : (v_op &&& 15) = 7
        · skip
          refine lv_tableIn (tgt := 126) (off := 101) hx hb dX10_combine_25 (by rw [c_25_3]; decide) (by rw [c_25_3]; decide) (by rw [c_25_3]; rfl) (by decide) ?_
          refine lv_aload_n hx hb dX10_combine_126 rfl (lv_at hl 1 rfl) ?_
          refine lv_iload_n hx hb dX10_combine_127 rfl (lv_at hl 0 rfl) ?_
          refine lv_iload_n hx hb dX10_combine_128 rfl (lv_at hl 2 rfl) ?_
          refine lv_ixor hx hb dX10_combine_129 ?_
          have hPc : va_P D vwCl (wX10_bits cI cB a_wo a_ins a_mc a_me a_ps a_rg v_op v_i v_r v_s v_a v_b v_fault v_word v_rF) H := hP.sub [0, 1, 2, 3, 4] rfl
          have hDc : va_D A (wX10_bits cI cB a_wo a_ins a_mc a_me a_ps a_rg v_op v_i v_r v_s v_a v_b v_fault v_word v_rF) := hD.sub [0, 1, 2, 3, 4] (by decide) rfl
          have hFc := va_free (wc := (wX10_bits cI cB a_wo a_ins a_mc a_me a_ps a_rg v_op v_i v_r v_s v_a v_b v_fault v_word v_rF)) hD hS hA [0, 1, 2, 3, 4] rfl
          refine va_callv (va_runV (As := [.int (r_11 ^^^ x0)]) (rest := []) ⟨hx, hb, hml, hown, hts⟩ (kX10_bits l D cI cB a_wo a_ins a_mc a_me a_ps a_rg H.size v_op v_i v_r v_s v_a v_b v_fault v_word v_rF (r_11 ^^^ x0)) (cwV 1 hts (gd_V wd_514 wd_515 wd_516 wd_495 wd_500) rfl rfl rfl hdX10_bits ⟨Nat.le_of_ble_eq_true rfl, Nat.le_of_ble_eq_true rfl⟩) (preV_std (ci := 10) (q0 := 0) hPc hK hDc hNW rfl rfl) rfl rfl hl.1 rfl (lv_room (Nat.le_of_ble_eq_true rfl)) dX10_combine_130 ⟨Nat.zero_le _, Nat.zero_le _⟩) hS (fun q _ h => hFc q h) hFc (fun u_130 t9 H1 locs ht9 hvm9 hw9 hB9 hz9 hk9 hS => ?_)
          have eu_130 : u_130 = fX10_bits (r_11 ^^^ x0) v_r v_word v_rF := hw9
          obtain ⟨hP, hD⟩ := back_std (w1 := (wX10_bits cI cB a_wo a_ins a_mc a_me a_ps a_rg v_op v_i v_r v_s v_a v_b v_fault u_130.1 u_130.2)) (w2 := (wX10_combine cI cB a_wo a_ins a_mc a_me a_ps a_rg v_op v_i v_r v_s v_a v_b v_fault u_130.1 u_130.2)) (wr := []) hP hD [0, 1, 2, 3, 4] [] [0, 1, 2, 3, 4] rfl rfl (by decide) (by decide) hk9 hFc hB9 ht9 (by decide) rfl
          clear hB9 hk9 hz9 hvm9 ht9 hFc hPc hDc
          generalize H1 = H at hP hS ⊢
          refine lv_goto (tgt := 249) hx hb dX10_combine_133 (by decide) ?_
          have hf9 : (v_fault, u_130.1, u_130.2) = fX10_combine x0 v_op v_r v_fault v_word v_rF := by simp only [fX10_combine, ← er_11, ← eu_130, if_neg c_25_0, if_neg c_25_1, if_neg c_25_2, if_pos c_25_3]
          exact W.vret hx hb hr (fun t9 ht9 hW9 => ⟨⟨(v_fault, u_130.1, u_130.2), rfl, hf9, ⟨by rw [ht9]; exact hP, va_K.moved hW9.alike hK, hD⟩⟩, hS.F ht9⟩) hS.2.2 dX10_combine_249
        · skip
          by_cases c_25_4 : (v_op &&& 15) = 8
          · skip
            refine lv_tableIn (tgt := 136) (off := 111) hx hb dX10_combine_25 (by rw [c_25_4]; decide) (by rw [c_25_4]; decide) (by rw [c_25_4]; rfl) (by decide) ?_
            refine lv_aload_n hx hb dX10_combine_136 rfl (lv_at hl 1 rfl) ?_
            refine va_get (D := D) (ci := 10) (v := .ref a_mc) (C := RX10) (T := TX10) (N := 2) hx hb hts in_X10 hown hK hP 0 rfl rfl 0 (by decide) q_0 (fun _ h9 => h9) rfl dX10_combine_137 ?_
            refine lv_aload_n hx hb dX10_combine_140 rfl (lv_at hl 1 rfl) ?_
            refine va_get (D := D) (ci := 10) (v := .ref a_ins) (C := RX10) (T := TX10) (N := 2) hx hb hts in_X10 hown hK hP 0 rfl rfl 1 (by decide) q_1 (fun _ h9 => h9) rfl dX10_combine_141 ?_
            refine va_getN (D := D) (ci := 4) (v := .int v_r) (C := RX4) (T := TX4) (N := 8) hx hb hts in_X4 hown hK hP 1 rfl rfl 4 (by decide) n_0 (fun _ h9 => h9) rfl dX10_combine_144 ?_
            refine lv_iload_n hx hb dX10_combine_147 rfl (lv_at hl 2 rfl) ?_
            have hPc : va_P D vwCl (wX5_setReg cI cB a_mc a_me a_ps a_rg v_fault v_rF) H := hP.sub [2, 4] rfl
            have hDc : va_D A (wX5_setReg cI cB a_mc a_me a_ps a_rg v_fault v_rF) := hD.sub [2, 4] (by decide) rfl
            have hFc := va_free (wc := (wX5_setReg cI cB a_mc a_me a_ps a_rg v_fault v_rF)) hD hS hA [2, 4] rfl
            refine va_callv (va_runV (As := [.int v_r, .int x0]) (rest := []) ⟨hx, hb, hml, hown, hts⟩ (kX5_setReg l D cI cB a_mc a_me a_ps a_rg H.size v_fault v_rF v_r x0) (cwV 2 hts (gd_V wd_487 wd_22 wd_23 wd_24 wd_6) rfl rfl rfl hdX5_setReg ⟨Nat.le_of_ble_eq_true rfl, Nat.le_of_ble_eq_true rfl⟩) (preV_std (ci := 5) (q0 := 0) hPc hK hDc hNW rfl rfl) rfl rfl hl.1 rfl (lv_room (Nat.le_of_ble_eq_true rfl)) dX10_combine_148 ⟨Nat.zero_le _, Nat.zero_le _⟩) hS (fun q _ h => hFc q h) hFc (fun u_148 t9 H1 locs ht9 hvm9 hw9 hB9 hz9 hk9 hS => ?_)
            have eu_148 : u_148 = fX5_setReg v_r x0 v_rF := hw9
            obtain ⟨hP, hD⟩ := back_std (w1 := (wX5_setReg cI cB a_mc a_me a_ps a_rg v_fault u_148)) (w2 := (wX10_combine cI cB a_wo a_ins a_mc a_me a_ps a_rg v_op v_i v_r v_s v_a v_b v_fault v_word u_148)) (wr := [(a_wo, .inr (10, [.ref a_mc, .ref a_ins])), (a_ins, .inr (4, [.ref a_mc, .ref a_me, .int v_op, .int v_i, .int v_r, .int v_s, .int v_a, .int v_b])), (a_ps, .inr (7, [.long v_word]))]) hP hD [2, 4] [0, 1, 3] [0, 1, 3, 2, 4] rfl rfl (by decide) (by decide) hk9 hFc hB9 ht9 (by decide) rfl
            clear hB9 hk9 hz9 hvm9 ht9 hFc hPc hDc
            generalize H1 = H at hP hS ⊢
            refine lv_goto (tgt := 249) hx hb dX10_combine_151 (by decide) ?_
            have hf9 : (v_fault, v_word, u_148) = fX10_combine x0 v_op v_r v_fault v_word v_rF := by simp only [fX10_combine, ← er_11, ← eu_148, if_neg c_25_0, if_neg c_25_1, if_neg c_25_2, if_neg c_25_3, if_pos c_25_4]
            exact W.vret hx hb hr (fun t9 ht9 hW9 => ⟨⟨(v_fault, v_word, u_148), rfl, hf9, ⟨by rw [ht9]; exact hP, va_K.moved hW9.alike hK, hD⟩⟩, hS.F ht9⟩) hS.2.2 dX10_combine_249
          · skip
            by_cases c_25_5 : (v_op &&& 15) = 9
            · skip
              refine lv_tableIn (tgt := 154) (off := 129) hx hb dX10_combine_25 (by rw [c_25_5]; decide) (by rw [c_25_5]; decide) (by rw [c_25_5]; rfl) (by decide) ?_
              refine lv_aload_n hx hb dX10_combine_154 rfl (lv_at hl 1 rfl) ?_
              refine va_get (D := D) (ci := 10) (v := .ref a_mc) (C := RX10) (T := TX10) (N := 2) hx hb hts in_X10 hown hK hP 0 rfl rfl 0 (by decide) q_0 (fun _ h9 => h9) rfl dX10_combine_155 ?_
              refine lv_iload_n hx hb dX10_combine_158 rfl (lv_at hl 0 rfl) ?_
              refine lv_i2l hx hb dX10_combine_159 rfl ?_
              refine lv_iload_n hx hb dX10_combine_160 rfl (lv_at hl 2 rfl) ?_
              refine lv_i2l hx hb dX10_combine_161 rfl ?_
              have hPc : va_P D vwCl (wX5_conditionByComparing cI cB a_mc a_me a_ps a_rg v_fault v_word) H := hP.sub [2, 3] rfl
              have hDc : va_D A (wX5_conditionByComparing cI cB a_mc a_me a_ps a_rg v_fault v_word) := hD.sub [2, 3] (by decide) rfl
              have hFc := va_free (wc := (wX5_conditionByComparing cI cB a_mc a_me a_ps a_rg v_fault v_word)) hD hS hA [2, 3] rfl
              refine va_callv (va_runV (As := [.long (r_11 : Int32).toInt64, .long (x0 : Int32).toInt64]) (rest := []) ⟨hx, hb, hml, hown, hts⟩ (kX5_conditionByComparing l D cI cB a_mc a_me a_ps a_rg H.size v_fault v_word ((r_11 : Int32).toInt64) ((x0 : Int32).toInt64)) (cwV 2 hts (gd_V wd_517 wd_442 wd_443 wd_24 wd_376) rfl rfl rfl hdX5_conditionByComparing ⟨Nat.le_of_ble_eq_true rfl, Nat.le_of_ble_eq_true rfl⟩) (preV_std (ci := 5) (q0 := 0) hPc hK hDc hNW rfl rfl) rfl rfl hl.1 rfl (lv_room (Nat.le_of_ble_eq_true rfl)) dX10_combine_162 ⟨Nat.zero_le _, Nat.zero_le _⟩) hS (fun q _ h => hFc q h) hFc (fun u_162 t9 H1 locs ht9 hvm9 hw9 hB9 hz9 hk9 hS => ?_)
              have eu_162 : u_162 = fX5_conditionByComparing ((r_11 : Int32).toInt64) ((x0 : Int32).toInt64) v_word := hw9
              obtain ⟨hP, hD⟩ := back_std (w1 := (wX5_conditionByComparing cI cB a_mc a_me a_ps a_rg v_fault u_162)) (w2 := (wX10_combine cI cB a_wo a_ins a_mc a_me a_ps a_rg v_op v_i v_r v_s v_a v_b v_fault u_162 v_rF)) (wr := [(a_wo, .inr (10, [.ref a_mc, .ref a_ins])), (a_ins, .inr (4, [.ref a_mc, .ref a_me, .int v_op, .int v_i, .int v_r, .int v_s, .int v_a, .int v_b])), (a_rg, .inl (cI, 16, .inl v_rF))]) hP hD [2, 3] [0, 1, 4] [0, 1, 3, 4, 2] rfl rfl (by decide) (by decide) hk9 hFc hB9 ht9 (by decide) rfl
              clear hB9 hk9 hz9 hvm9 ht9 hFc hPc hDc
              generalize H1 = H at hP hS ⊢
              refine lv_goto (tgt := 249) hx hb dX10_combine_165 (by decide) ?_
              have hf9 : (v_fault, u_162, v_rF) = fX10_combine x0 v_op v_r v_fault v_word v_rF := by simp only [fX10_combine, ← er_11, ← eu_162, if_neg c_25_0, if_neg c_25_1, if_neg c_25_2, if_neg c_25_3, if_neg c_25_4, if_pos c_25_5]
              exact W.vret hx hb hr (fun t9 ht9 hW9 => ⟨⟨(v_fault, u_162, v_rF), rfl, hf9, ⟨by rw [ht9]; exact hP, va_K.moved hW9.alike hK, hD⟩⟩, hS.F ht9⟩) hS.2.2 dX10_combine_249
            · skip
              by_cases c_25_6 : (v_op &&& 15) = 10
              · skip
                refine lv_tableIn (tgt := 168) (off := 143) hx hb dX10_combine_25 (by rw [c_25_6]; decide) (by rw [c_25_6]; decide) (by rw [c_25_6]; rfl) (by decide) ?_
                refine lv_aload_n hx hb dX10_combine_168 rfl (lv_at hl 1 rfl) ?_
                refine lv_iload_n hx hb dX10_combine_169 rfl (lv_at hl 0 rfl) ?_
                refine lv_i2l hx hb dX10_combine_170 rfl ?_
                refine lv_iload_n hx hb dX10_combine_171 rfl (lv_at hl 2 rfl) ?_
                refine lv_i2l hx hb dX10_combine_172 rfl ?_
                refine lv_ladd hx hb dX10_combine_173 ?_
                have hPc : va_P D vwCl (wX10_signed cI cB a_wo a_ins a_mc a_me a_ps a_rg v_op v_i v_r v_s v_a v_b v_fault v_word v_rF) H := hP.sub [0, 1, 2, 3, 4] rfl
                have hDc : va_D A (wX10_signed cI cB a_wo a_ins a_mc a_me a_ps a_rg v_op v_i v_r v_s v_a v_b v_fault v_word v_rF) := hD.sub [0, 1, 2, 3, 4] (by decide) rfl
                have hFc := va_free (wc := (wX10_signed cI cB a_wo a_ins a_mc a_me a_ps a_rg v_op v_i v_r v_s v_a v_b v_fault v_word v_rF)) hD hS hA [0, 1, 2, 3, 4] rfl
                refine va_callv (va_runV (As := [.long (((r_11 : Int32).toInt64 + (x0 : Int32).toInt64))]) (rest := []) ⟨hx, hb, hml, hown, hts⟩ (kX10_signed l D cI cB a_wo a_ins a_mc a_me a_ps a_rg H.size v_op v_i v_r v_s v_a v_b v_fault v_word v_rF ((r_11 : Int32).toInt64 + (x0 : Int32).toInt64)) (cwV 1 hts (gd_V wd_492 wd_493 wd_494 wd_495 wd_490) rfl rfl rfl hdX10_signed ⟨Nat.le_of_ble_eq_true rfl, Nat.le_of_ble_eq_true rfl⟩) (preV_std (ci := 10) (q0 := 0) hPc hK hDc hNW rfl rfl) rfl rfl hl.1 rfl (lv_room (Nat.le_of_ble_eq_true rfl)) dX10_combine_174 ⟨Nat.zero_le _, Nat.zero_le _⟩) hS (fun q _ h => hFc q h) hFc (fun u_174 t9 H1 locs ht9 hvm9 hw9 hB9 hz9 hk9 hS => ?_)
                have eu_174 : u_174 = fX10_signed ((r_11 : Int32).toInt64 + (x0 : Int32).toInt64) v_r v_fault v_word v_rF := hw9
                obtain ⟨hP, hD⟩ := back_std (w1 := (wX10_signed cI cB a_wo a_ins a_mc a_me a_ps a_rg v_op v_i v_r v_s v_a v_b u_174.1 u_174.2.1 u_174.2.2)) (w2 := (wX10_combine cI cB a_wo a_ins a_mc a_me a_ps a_rg v_op v_i v_r v_s v_a v_b u_174.1 u_174.2.1 u_174.2.2)) (wr := []) hP hD [0, 1, 2, 3, 4] [] [0, 1, 2, 3, 4] rfl rfl (by decide) (by decide) hk9 hFc hB9 ht9 (by decide) rfl
                clear hB9 hk9 hz9 hvm9 ht9 hFc hPc hDc
                generalize H1 = H at hP hS ⊢
                refine lv_goto (tgt := 249) hx hb dX10_combine_177 (by decide) ?_
                have hf9 : (u_174.1, u_174.2.1, u_174.2.2) = fX10_combine x0 v_op v_r v_fault v_word v_rF := by simp only [fX10_combine, ← er_11, ← eu_174, if_neg c_25_0, if_neg c_25_1, if_neg c_25_2, if_neg c_25_3, if_neg c_25_4, if_neg c_25_5, if_pos c_25_6]
                exact W.vret hx hb hr (fun t9 ht9 hW9 => ⟨⟨(u_174.1, u_174.2.1, u_174.2.2), rfl, hf9, ⟨by rw [ht9]; exact hP, va_K.moved hW9.alike hK, hD⟩⟩, hS.F ht9⟩) hS.2.2 dX10_combine_249
              · skip
                by_cases c_25_7 : (v_op &&& 15) = 11
                · skip
                  refine lv_tableIn (tgt := 180) (off := 155) hx hb dX10_combine_25 (by rw [c_25_7]; decide) (by rw [c_25_7]; decide) (by rw [c_25_7]; rfl) (by decide) ?_
                  refine lv_aload_n hx hb dX10_combine_180 rfl (lv_at hl 1 rfl) ?_
                  refine lv_iload_n hx hb dX10_combine_181 rfl (lv_at hl 0 rfl) ?_
                  refine lv_i2l hx hb dX10_combine_182 rfl ?_
                  refine lv_iload_n hx hb dX10_combine_183 rfl (lv_at hl 2 rfl) ?_
                  refine lv_i2l hx hb dX10_combine_184 rfl ?_
                  refine lv_lsub hx hb dX10_combine_185 ?_
                  have hPc : va_P D vwCl (wX10_signed cI cB a_wo a_ins a_mc a_me a_ps a_rg v_op v_i v_r v_s v_a v_b v_fault v_word v_rF) H := hP.sub [0, 1, 2, 3, 4] rfl
                  have hDc : va_D A (wX10_signed cI cB a_wo a_ins a_mc a_me a_ps a_rg v_op v_i v_r v_s v_a v_b v_fault v_word v_rF) := hD.sub [0, 1, 2, 3, 4] (by decide) rfl
                  have hFc := va_free (wc := (wX10_signed cI cB a_wo a_ins a_mc a_me a_ps a_rg v_op v_i v_r v_s v_a v_b v_fault v_word v_rF)) hD hS hA [0, 1, 2, 3, 4] rfl
                  refine va_callv (va_runV (As := [.long (((r_11 : Int32).toInt64 - (x0 : Int32).toInt64))]) (rest := []) ⟨hx, hb, hml, hown, hts⟩ (kX10_signed l D cI cB a_wo a_ins a_mc a_me a_ps a_rg H.size v_op v_i v_r v_s v_a v_b v_fault v_word v_rF ((r_11 : Int32).toInt64 - (x0 : Int32).toInt64)) (cwV 1 hts (gd_V wd_492 wd_493 wd_494 wd_495 wd_490) rfl rfl rfl hdX10_signed ⟨Nat.le_of_ble_eq_true rfl, Nat.le_of_ble_eq_true rfl⟩) (preV_std (ci := 10) (q0 := 0) hPc hK hDc hNW rfl rfl) rfl rfl hl.1 rfl (lv_room (Nat.le_of_ble_eq_true rfl)) dX10_combine_186 ⟨Nat.zero_le _, Nat.zero_le _⟩) hS (fun q _ h => hFc q h) hFc (fun u_186 t9 H1 locs ht9 hvm9 hw9 hB9 hz9 hk9 hS => ?_)
                  have eu_186 : u_186 = fX10_signed ((r_11 : Int32).toInt64 - (x0 : Int32).toInt64) v_r v_fault v_word v_rF := hw9
                  obtain ⟨hP, hD⟩ := back_std (w1 := (wX10_signed cI cB a_wo a_ins a_mc a_me a_ps a_rg v_op v_i v_r v_s v_a v_b u_186.1 u_186.2.1 u_186.2.2)) (w2 := (wX10_combine cI cB a_wo a_ins a_mc a_me a_ps a_rg v_op v_i v_r v_s v_a v_b u_186.1 u_186.2.1 u_186.2.2)) (wr := []) hP hD [0, 1, 2, 3, 4] [] [0, 1, 2, 3, 4] rfl rfl (by decide) (by decide) hk9 hFc hB9 ht9 (by decide) rfl
                  clear hB9 hk9 hz9 hvm9 ht9 hFc hPc hDc
                  generalize H1 = H at hP hS ⊢
                  refine lv_goto (tgt := 249) hx hb dX10_combine_189 (by decide) ?_
                  have hf9 : (u_186.1, u_186.2.1, u_186.2.2) = fX10_combine x0 v_op v_r v_fault v_word v_rF := by simp only [fX10_combine, ← er_11, ← eu_186, if_neg c_25_0, if_neg c_25_1, if_neg c_25_2, if_neg c_25_3, if_neg c_25_4, if_neg c_25_5, if_neg c_25_6, if_pos c_25_7]
                  exact W.vret hx hb hr (fun t9 ht9 hW9 => ⟨⟨(u_186.1, u_186.2.1, u_186.2.2), rfl, hf9, ⟨by rw [ht9]; exact hP, va_K.moved hW9.alike hK, hD⟩⟩, hS.F ht9⟩) hS.2.2 dX10_combine_249
                · skip
                  by_cases c_25_8 : (v_op &&& 15) = 12
                  · skip
                    refine lv_tableIn (tgt := 192) (off := 167) hx hb dX10_combine_25 (by rw [c_25_8]; decide) (by rw [c_25_8]; decide) (by rw [c_25_8]; rfl) (by decide) ?_
                    refine lv_aload_n hx hb dX10_combine_192 rfl (lv_at hl 1 rfl) ?_
                    refine lv_iload_n hx hb dX10_combine_193 rfl (lv_at hl 2 rfl) ?_
                    have hPc : va_P D vwCl (wX10_multiply cI cB a_wo a_ins a_mc a_me a_ps a_rg v_op v_i v_r v_s v_a v_b v_fault v_rF) H := hP.sub [0, 1, 2, 4] rfl
                    have hDc : va_D A (wX10_multiply cI cB a_wo a_ins a_mc a_me a_ps a_rg v_op v_i v_r v_s v_a v_b v_fault v_rF) := hD.sub [0, 1, 2, 4] (by decide) rfl
                    have hFc := va_free (wc := (wX10_multiply cI cB a_wo a_ins a_mc a_me a_ps a_rg v_op v_i v_r v_s v_a v_b v_fault v_rF)) hD hS hA [0, 1, 2, 4] rfl
                    refine va_callv (va_runV (As := [.int x0]) (rest := []) ⟨hx, hb, hml, hown, hts⟩ (kX10_multiply l D cI cB a_wo a_ins a_mc a_me a_ps a_rg H.size v_op v_i v_r v_s v_a v_b v_fault v_rF x0) (cwV 1 hts (gd_V wd_518 wd_519 wd_520 wd_495 wd_506) rfl rfl rfl hdX10_multiply ⟨Nat.le_of_ble_eq_true rfl, Nat.le_of_ble_eq_true rfl⟩) (preV_std (ci := 10) (q0 := 0) hPc hK hDc hNW rfl rfl) rfl rfl hl.1 rfl (lv_room (Nat.le_of_ble_eq_true rfl)) dX10_combine_194 ⟨Nat.zero_le _, Nat.zero_le _⟩) hS (fun q _ h => hFc q h) hFc (fun u_194 t9 H1 locs ht9 hvm9 hw9 hB9 hz9 hk9 hS => ?_)
                    have eu_194 : u_194 = fX10_multiply x0 v_r v_fault v_rF := hw9
                    obtain ⟨hP, hD⟩ := back_std (w1 := (wX10_multiply cI cB a_wo a_ins a_mc a_me a_ps a_rg v_op v_i v_r v_s v_a v_b u_194.1 u_194.2)) (w2 := (wX10_combine cI cB a_wo a_ins a_mc a_me a_ps a_rg v_op v_i v_r v_s v_a v_b u_194.1 v_word u_194.2)) (wr := [(a_ps, .inr (7, [.long v_word]))]) hP hD [0, 1, 2, 4] [3] [1, 2, 3, 0, 4] rfl rfl (by decide) (by decide) hk9 hFc hB9 ht9 (by decide) rfl
                    clear hB9 hk9 hz9 hvm9 ht9 hFc hPc hDc
                    generalize H1 = H at hP hS ⊢
                    refine lv_goto (tgt := 249) hx hb dX10_combine_197 (by decide) ?_
                    have hf9 : (u_194.1, v_word, u_194.2) = fX10_combine x0 v_op v_r v_fault v_word v_rF := by simp only [fX10_combine, ← er_11, ← eu_194, if_neg c_25_0, if_neg c_25_1, if_neg c_25_2, if_neg c_25_3, if_neg c_25_4, if_neg c_25_5, if_neg c_25_6, if_neg c_25_7, if_pos c_25_8]
                    exact W.vret hx hb hr (fun t9 ht9 hW9 => ⟨⟨(u_194.1, v_word, u_194.2), rfl, hf9, ⟨by rw [ht9]; exact hP, va_K.moved hW9.alike hK, hD⟩⟩, hS.F ht9⟩) hS.2.2 dX10_combine_249
                  · skip
                    by_cases c_25_9 : (v_op &&& 15) = 13
                    · skip
                      refine lv_tableIn (tgt := 200) (off := 175) hx hb dX10_combine_25 (by rw [c_25_9]; decide) (by rw [c_25_9]; decide) (by rw [c_25_9]; rfl) (by decide) ?_
                      refine lv_aload_n hx hb dX10_combine_200 rfl (lv_at hl 1 rfl) ?_
                      refine lv_iload_n hx hb dX10_combine_201 rfl (lv_at hl 2 rfl) ?_
                      have hPc : va_P D vwCl (wX10_divide cI cB a_wo a_ins a_mc a_me a_ps a_rg v_op v_i v_r v_s v_a v_b v_fault v_rF) H := hP.sub [0, 1, 2, 4] rfl
                      have hDc : va_D A (wX10_divide cI cB a_wo a_ins a_mc a_me a_ps a_rg v_op v_i v_r v_s v_a v_b v_fault v_rF) := hD.sub [0, 1, 2, 4] (by decide) rfl
                      have hFc := va_free (wc := (wX10_divide cI cB a_wo a_ins a_mc a_me a_ps a_rg v_op v_i v_r v_s v_a v_b v_fault v_rF)) hD hS hA [0, 1, 2, 4] rfl
                      refine va_callv (va_runV (As := [.int x0]) (rest := []) ⟨hx, hb, hml, hown, hts⟩ (kX10_divide l D cI cB a_wo a_ins a_mc a_me a_ps a_rg H.size v_op v_i v_r v_s v_a v_b v_fault v_rF x0) (cwV 1 hts (gd_V wd_521 wd_522 wd_523 wd_495 wd_510) rfl rfl rfl hdX10_divide ⟨Nat.le_of_ble_eq_true rfl, Nat.le_of_ble_eq_true rfl⟩) (preV_std (ci := 10) (q0 := 0) hPc hK hDc hNW rfl rfl) rfl rfl hl.1 rfl (lv_room (Nat.le_of_ble_eq_true rfl)) dX10_combine_202 ⟨Nat.zero_le _, Nat.zero_le _⟩) hS (fun q _ h => hFc q h) hFc (fun u_202 t9 H1 locs ht9 hvm9 hw9 hB9 hz9 hk9 hS => ?_)
                      have eu_202 : u_202 = fX10_divide x0 v_r v_fault v_rF := hw9
                      obtain ⟨hP, hD⟩ := back_std (w1 := (wX10_divide cI cB a_wo a_ins a_mc a_me a_ps a_rg v_op v_i v_r v_s v_a v_b u_202.1 u_202.2)) (w2 := (wX10_combine cI cB a_wo a_ins a_mc a_me a_ps a_rg v_op v_i v_r v_s v_a v_b u_202.1 v_word u_202.2)) (wr := [(a_ps, .inr (7, [.long v_word]))]) hP hD [0, 1, 2, 4] [3] [1, 2, 3, 0, 4] rfl rfl (by decide) (by decide) hk9 hFc hB9 ht9 (by decide) rfl
                      clear hB9 hk9 hz9 hvm9 ht9 hFc hPc hDc
                      generalize H1 = H at hP hS ⊢
                      refine lv_goto (tgt := 249) hx hb dX10_combine_205 (by decide) ?_
                      have hf9 : (u_202.1, v_word, u_202.2) = fX10_combine x0 v_op v_r v_fault v_word v_rF := by simp only [fX10_combine, ← er_11, ← eu_202, if_neg c_25_0, if_neg c_25_1, if_neg c_25_2, if_neg c_25_3, if_neg c_25_4, if_neg c_25_5, if_neg c_25_6, if_neg c_25_7, if_neg c_25_8, if_pos c_25_9]
                      exact W.vret hx hb hr (fun t9 ht9 hW9 => ⟨⟨(u_202.1, v_word, u_202.2), rfl, hf9, ⟨by rw [ht9]; exact hP, va_K.moved hW9.alike hK, hD⟩⟩, hS.F ht9⟩) hS.2.2 dX10_combine_249
                    · skip
                      by_cases c_25_10 : (v_op &&& 15) = 14
                      · skip
                        refine lv_tableIn (tgt := 208) (off := 183) hx hb dX10_combine_25 (by rw [c_25_10]; decide) (by rw [c_25_10]; decide) (by rw [c_25_10]; rfl) (by decide) ?_
                        refine lv_aload_n hx hb dX10_combine_208 rfl (lv_at hl 1 rfl) ?_
                        refine lv_iload_n hx hb dX10_combine_209 rfl (lv_at hl 0 rfl) ?_
                        refine lv_i2l hx hb dX10_combine_210 rfl ?_
                        refine lv_ldc2 (v := 4294967295) hx hb hown q_2 dX10_combine_211 ?_
                        refine lv_land hx hb dX10_combine_214 ?_
                        refine lv_iload_n hx hb dX10_combine_215 rfl (lv_at hl 2 rfl) ?_
                        refine lv_i2l hx hb dX10_combine_216 rfl ?_
                        refine lv_ldc2 (v := 4294967295) hx hb hown q_2 dX10_combine_217 ?_
                        refine lv_land hx hb dX10_combine_220 ?_
                        refine lv_ladd hx hb dX10_combine_221 ?_
                        have hPc : va_P D vwCl (wX10_unsigned cI cB a_wo a_ins a_mc a_me a_ps a_rg v_op v_i v_r v_s v_a v_b v_fault v_word v_rF) H := hP.sub [0, 1, 2, 3, 4] rfl
                        have hDc : va_D A (wX10_unsigned cI cB a_wo a_ins a_mc a_me a_ps a_rg v_op v_i v_r v_s v_a v_b v_fault v_word v_rF) := hD.sub [0, 1, 2, 3, 4] (by decide) rfl
                        have hFc := va_free (wc := (wX10_unsigned cI cB a_wo a_ins a_mc a_me a_ps a_rg v_op v_i v_r v_s v_a v_b v_fault v_word v_rF)) hD hS hA [0, 1, 2, 3, 4] rfl
                        refine va_callv (va_runV (As := [.long ((((r_11 : Int32).toInt64 &&& 4294967295) + ((x0 : Int32).toInt64 &&& 4294967295)))]) (rest := []) ⟨hx, hb, hml, hown, hts⟩ (kX10_unsigned l D cI cB a_wo a_ins a_mc a_me a_ps a_rg H.size v_op v_i v_r v_s v_a v_b v_fault v_word v_rF (((r_11 : Int32).toInt64 &&& 4294967295) + ((x0 : Int32).toInt64 &&& 4294967295))) (cwV 1 hts (gd_V wd_524 wd_525 wd_526 wd_495 wd_511) rfl rfl rfl hdX10_unsigned ⟨Nat.le_of_ble_eq_true rfl, Nat.le_of_ble_eq_true rfl⟩) (preV_std (ci := 10) (q0 := 0) hPc hK hDc hNW rfl rfl) rfl rfl hl.1 rfl (lv_room (Nat.le_of_ble_eq_true rfl)) dX10_combine_222 ⟨Nat.zero_le _, Nat.zero_le _⟩) hS (fun q _ h => hFc q h) hFc (fun u_222 t9 H1 locs ht9 hvm9 hw9 hB9 hz9 hk9 hS => ?_)
                        have eu_222 : u_222 = fX10_unsigned (((r_11 : Int32).toInt64 &&& 4294967295) + ((x0 : Int32).toInt64 &&& 4294967295)) v_r v_word v_rF := hw9
                        obtain ⟨hP, hD⟩ := back_std (w1 := (wX10_unsigned cI cB a_wo a_ins a_mc a_me a_ps a_rg v_op v_i v_r v_s v_a v_b v_fault u_222.1 u_222.2)) (w2 := (wX10_combine cI cB a_wo a_ins a_mc a_me a_ps a_rg v_op v_i v_r v_s v_a v_b v_fault u_222.1 u_222.2)) (wr := []) hP hD [0, 1, 2, 3, 4] [] [0, 1, 2, 3, 4] rfl rfl (by decide) (by decide) hk9 hFc hB9 ht9 (by decide) rfl
                        clear hB9 hk9 hz9 hvm9 ht9 hFc hPc hDc
                        generalize H1 = H at hP hS ⊢
                        refine lv_goto (tgt := 249) hx hb dX10_combine_225 (by decide) ?_
                        have hf9 : (v_fault, u_222.1, u_222.2) = fX10_combine x0 v_op v_r v_fault v_word v_rF := by simp only [fX10_combine, ← er_11, ← eu_222, if_neg c_25_0, if_neg c_25_1, if_neg c_25_2, if_neg c_25_3, if_neg c_25_4, if_neg c_25_5, if_neg c_25_6, if_neg c_25_7, if_neg c_25_8, if_neg c_25_9, if_pos c_25_10]
                        exact W.vret hx hb hr (fun t9 ht9 hW9 => ⟨⟨(v_fault, u_222.1, u_222.2), rfl, hf9, ⟨by rw [ht9]; exact hP, va_K.moved hW9.alike hK, hD⟩⟩, hS.F ht9⟩) hS.2.2 dX10_combine_249
                      · skip
                        refine sw_def (tgt := 228) hx hb [4, 5, 6, 7, 8, 9, 10, 11, 12, 13, 14] dX10_combine_25 (by decide) (by decide) ?_ (by decide) ?_
                        · intro v hv he
                          simp only [List.mem_cons, List.not_mem_nil, or_false] at hv
                          have hx9 : (v_op &&& 15) = Int32.ofInt v := by rw [← he, Int32.ofInt_toInt]
                          revert hx9
                          rcases hv with rfl | rfl | rfl | rfl | rfl | rfl | rfl | rfl | rfl | rfl | rfl <;> intro hx9 <;> first | exact c_25_0 (by rw [hx9]; decide) | exact c_25_1 (by rw [hx9]; decide) | exact c_25_2 (by rw [hx9]; decide) | exact c_25_3 (by rw [hx9]; decide) | exact c_25_4 (by rw [hx9]; decide) | exact c_25_5 (by rw [hx9]; decide) | exact c_25_6 (by rw [hx9]; decide) | exact c_25_7 (by rw [hx9]; decide) | exact c_25_8 (by rw [hx9]; decide) | exact c_25_9 (by rw [hx9]; decide) | exact c_25_10 (by rw [hx9]; decide)
                        · skip
                          refine lv_aload_n hx hb dX10_combine_228 rfl (lv_at hl 1 rfl) ?_
                          refine lv_iload_n hx hb dX10_combine_229 rfl (lv_at hl 0 rfl) ?_
                          refine lv_i2l hx hb dX10_combine_230 rfl ?_
                          refine lv_ldc2 (v := 4294967295) hx hb hown q_2 dX10_combine_231 ?_
                          refine lv_land hx hb dX10_combine_234 ?_
                          refine lv_iload_n hx hb dX10_combine_235 rfl (lv_at hl 2 rfl) ?_
                          refine lv_iconst (v := (-1)) hx hb dX10_combine_236 (by decide) ?_
                          refine lv_ixor hx hb dX10_combine_237 ?_
                          refine lv_i2l hx hb dX10_combine_238 rfl ?_
                          refine lv_ldc2 (v := 4294967295) hx hb hown q_2 dX10_combine_239 ?_
                          refine lv_land hx hb dX10_combine_242 ?_
                          refine lv_ladd hx hb dX10_combine_243 ?_
                          refine lv_lconst (v := 1) hx hb dX10_combine_244 (by decide) ?_
                          refine lv_ladd hx hb dX10_combine_245 ?_
                          have hPc : va_P D vwCl (wX10_unsigned cI cB a_wo a_ins a_mc a_me a_ps a_rg v_op v_i v_r v_s v_a v_b v_fault v_word v_rF) H := hP.sub [0, 1, 2, 3, 4] rfl
                          have hDc : va_D A (wX10_unsigned cI cB a_wo a_ins a_mc a_me a_ps a_rg v_op v_i v_r v_s v_a v_b v_fault v_word v_rF) := hD.sub [0, 1, 2, 3, 4] (by decide) rfl
                          have hFc := va_free (wc := (wX10_unsigned cI cB a_wo a_ins a_mc a_me a_ps a_rg v_op v_i v_r v_s v_a v_b v_fault v_word v_rF)) hD hS hA [0, 1, 2, 3, 4] rfl
                          refine va_callv (va_runV (As := [.long (((((r_11 : Int32).toInt64 &&& 4294967295) + (((x0 ^^^ (-1)) : Int32).toInt64 &&& 4294967295)) + 1))]) (rest := []) ⟨hx, hb, hml, hown, hts⟩ (kX10_unsigned l D cI cB a_wo a_ins a_mc a_me a_ps a_rg H.size v_op v_i v_r v_s v_a v_b v_fault v_word v_rF ((((r_11 : Int32).toInt64 &&& 4294967295) + (((x0 ^^^ (-1)) : Int32).toInt64 &&& 4294967295)) + 1)) (cwV 1 hts (gd_V wd_524 wd_525 wd_526 wd_495 wd_511) rfl rfl rfl hdX10_unsigned ⟨Nat.le_of_ble_eq_true rfl, Nat.le_of_ble_eq_true rfl⟩) (preV_std (ci := 10) (q0 := 0) hPc hK hDc hNW rfl rfl) rfl rfl hl.1 rfl (lv_room (Nat.le_of_ble_eq_true rfl)) dX10_combine_246 ⟨Nat.zero_le _, Nat.zero_le _⟩) hS (fun q _ h => hFc q h) hFc (fun u_246 t9 H1 locs ht9 hvm9 hw9 hB9 hz9 hk9 hS => ?_)
                          have eu_246 : u_246 = fX10_unsigned ((((r_11 : Int32).toInt64 &&& 4294967295) + (((x0 ^^^ (-1)) : Int32).toInt64 &&& 4294967295)) + 1) v_r v_word v_rF := hw9
                          obtain ⟨hP, hD⟩ := back_std (w1 := (wX10_unsigned cI cB a_wo a_ins a_mc a_me a_ps a_rg v_op v_i v_r v_s v_a v_b v_fault u_246.1 u_246.2)) (w2 := (wX10_combine cI cB a_wo a_ins a_mc a_me a_ps a_rg v_op v_i v_r v_s v_a v_b v_fault u_246.1 u_246.2)) (wr := []) hP hD [0, 1, 2, 3, 4] [] [0, 1, 2, 3, 4] rfl rfl (by decide) (by decide) hk9 hFc hB9 ht9 (by decide) rfl
                          clear hB9 hk9 hz9 hvm9 ht9 hFc hPc hDc
                          generalize H1 = H at hP hS ⊢
                          have hf9 : (v_fault, u_246.1, u_246.2) = fX10_combine x0 v_op v_r v_fault v_word v_rF := by simp only [fX10_combine, ← er_11, ← eu_246, if_neg c_25_0, if_neg c_25_1, if_neg c_25_2, if_neg c_25_3, if_neg c_25_4, if_neg c_25_5, if_neg c_25_6, if_neg c_25_7, if_neg c_25_8, if_neg c_25_9, if_neg c_25_10]
                          exact W.vret hx hb hr (fun t9 ht9 hW9 => ⟨⟨(v_fault, u_246.1, u_246.2), rfl, hf9, ⟨by rw [ht9]; exact hP, va_K.moved hW9.alike hK, hD⟩⟩, hS.F ht9⟩) hS.2.2 dX10_combine_249
theorem hdX10_combine : yX10_combine.cls = RX10 ∧ yX10_combine.cls ≠ "java/lang/invoke/MethodHandle" ∧ yX10_combine.cls ≠ "java/lang/invoke/VarHandle" ∧ (parseMethodDescriptor yX10_combine.desc).map (fun d => d.parameters.length) = some 1 := by decide +kernel
noncomputable def fX10_demandOperand (x0 : Int32) (x1 : Int32) (v_a : Int32) (v_fault : Int32) (v_word : Int64) (v_kF : (Nat → Int32)) : Int32 :=
  let u_13 := fX5_demand v_a x0 x1 v_fault v_word v_kF
  let u_28 := fX5_demandAligned v_a x0 u_13
  u_28
abbrev wX10_demandOperand (cI cB : ClassId) (a_wo a_ins a_mc a_me a_ps a_by a_ks a_rg : Nat) (v_op : Int32) (v_i : Int32) (v_r : Int32) (v_s : Int32) (v_a : Int32) (v_b : Int32) (v_fault : Int32) (v_word : Int64) (v_kF : (Nat → Int32)) : va_W := [(a_wo, .inr (10, [.ref a_mc, .ref a_ins])), (a_ins, .inr (4, [.ref a_mc, .ref a_me, .int v_op, .int v_i, .int v_r, .int v_s, .int v_a, .int v_b])), (a_mc, .inr (5, [.ref a_me, .ref a_ps, .ref a_rg, .int v_fault])), (a_me, .inr (6, [.ref a_by, .ref a_ks])), (a_ps, .inr (7, [.long v_word])), (a_ks, .inl (cI, 4, .inl v_kF))]
abbrev rmX10_demandOperand : Room := { frames := 2, cells := 0, slots := 0, locals := 49 }
abbrev qX10_demandOperand (D : va_G) (cI cB : ClassId) (a_wo a_ins a_mc a_me a_ps a_by a_ks a_rg : Nat) (v_op : Int32) (v_i : Int32) (v_r : Int32) (v_s : Int32) (v_a : Int32) (v_b : Int32) (v_fault : Int32) (v_word : Int64) (v_kF : (Nat → Int32)) (x0 : Int32) (x1 : Int32) : (Nat → Prop) → Array Value → State → Outcome → State → Prop := fun A9 => va_Qv (fun (u9 : Int32) => u9 = fX10_demandOperand x0 x1 v_a v_fault v_word v_kF) (fun u9 t9 => atW D (TYS cI cB) A9 (wX10_demandOperand cI cB a_wo a_ins a_mc a_me a_ps a_by a_ks a_rg v_op v_i v_r v_s v_a v_b u9 v_word v_kF) t9) A9
set_option maxHeartbeats 4000000 in
set_option maxRecDepth 100000 in
theorem kX10_demandOperand (l : Launch) (D : va_G) (cI cB : ClassId) (a_wo a_ins a_mc a_me a_ps a_by a_ks a_rg : Nat) (sz : Nat) (v_op : Int32) (v_i : Int32) (v_r : Int32) (v_s : Int32) (v_a : Int32) (v_b : Int32) (v_fault : Int32) (v_word : Int64) (v_kF : (Nat → Int32)) (x0 : Int32) (x1 : Int32) : MetW l yX10_demandOperand (WK yX10_demandOperand cX10_demandOperand 3 none) rmX10_demandOperand D (TYS cI cB) (wX10_demandOperand cI cB a_wo a_ins a_mc a_me a_ps a_by a_ks a_rg v_op v_i v_r v_s v_a v_b v_fault v_word v_kF) sz [.ref a_wo, .int x0, .int x1] (qX10_demandOperand D cI cB a_wo a_ins a_mc a_me a_ps a_by a_ks a_rg v_op v_i v_r v_s v_a v_b v_fault v_word v_kF x0 x1) 0 0 := by
  refine met_std (by decide) rfl (Nat.le_of_ble_eq_true rfl) ?_
  intro p e s m below meth c A ls H hx hb hr hml hown hts hlocks hA hP hK hD hS hNW hl
  have hl : lv_has ls 3 [(0, .ref a_wo), (1, .int x0), (2, .int x1)] := hl
  have q_0 := hts _ (List.mem_cons_of_mem _ wd_485)
  have q_1 := hts _ (List.mem_cons_of_mem _ wd_486)
  have n_0 := hNW.f (A := ([.ref a_wo, .int x0, .int x1] : List Value).toArray) ("MainframeCore$Words", 49, "MainframeCore$Instruction", "a", "I", "MainframeCore") (by decide +kernel)
  refine lv_aload_n hx hb dX10_demandOperand_0 rfl (lv_at hl 0 rfl) ?_
  refine va_get (D := D) (ci := 10) (v := .ref a_mc) (C := RX10) (T := TX10) (N := 2) hx hb hts in_X10 hown hK hP 0 rfl rfl 0 (by decide) q_0 (fun _ h9 => h9) rfl dX10_demandOperand_1 ?_
  refine lv_aload_n hx hb dX10_demandOperand_4 rfl (lv_at hl 0 rfl) ?_
  refine va_get (D := D) (ci := 10) (v := .ref a_ins) (C := RX10) (T := TX10) (N := 2) hx hb hts in_X10 hown hK hP 0 rfl rfl 1 (by decide) q_1 (fun _ h9 => h9) rfl dX10_demandOperand_5 ?_
  refine va_getN (D := D) (ci := 4) (v := .int v_a) (C := RX4) (T := TX4) (N := 8) hx hb hts in_X4 hown hK hP 1 rfl rfl 6 (by decide) n_0 (fun _ h9 => h9) rfl dX10_demandOperand_8 ?_
  refine lv_iload_n hx hb dX10_demandOperand_11 rfl (lv_at hl 1 rfl) ?_
  refine lv_iload_n hx hb dX10_demandOperand_12 rfl (lv_at hl 2 rfl) ?_
  have hPc : va_P D vwCl (wX5_demand cI cB a_mc a_me a_ps a_by a_ks a_rg v_fault v_word v_kF) H := hP.sub [2, 3, 4, 5] rfl
  have hDc : va_D A (wX5_demand cI cB a_mc a_me a_ps a_by a_ks a_rg v_fault v_word v_kF) := hD.sub [2, 3, 4, 5] (by decide) rfl
  have hFc := va_free (wc := (wX5_demand cI cB a_mc a_me a_ps a_by a_ks a_rg v_fault v_word v_kF)) hD hS hA [2, 3, 4, 5] rfl
  refine va_callv (va_runV (As := [.int v_a, .int x0, .int x1]) (rest := []) ⟨hx, hb, hml, hown, hts⟩ (kX5_demand l D cI cB a_mc a_me a_ps a_by a_ks a_rg H.size v_fault v_word v_kF v_a x0 x1) (cwV 3 hts (gd_V wd_497 wd_106 wd_107 wd_24 wd_93) rfl rfl rfl hdX5_demand ⟨Nat.le_of_ble_eq_true rfl, Nat.le_of_ble_eq_true rfl⟩) (preV_std (ci := 5) (q0 := 0) hPc hK hDc hNW rfl rfl) rfl rfl hl.1 rfl (lv_room (Nat.le_of_ble_eq_true rfl)) dX10_demandOperand_13 ⟨Nat.zero_le _, Nat.zero_le _⟩) hS (fun q _ h => hFc q h) hFc (fun u_13 t9 H1 locs ht9 hvm9 hw9 hB9 hz9 hk9 hS => ?_)
  have eu_13 : u_13 = fX5_demand v_a x0 x1 v_fault v_word v_kF := hw9
  obtain ⟨hP, hD⟩ := back_std (w1 := (wX5_demand cI cB a_mc a_me a_ps a_by a_ks a_rg u_13 v_word v_kF)) (w2 := (wX10_demandOperand cI cB a_wo a_ins a_mc a_me a_ps a_by a_ks a_rg v_op v_i v_r v_s v_a v_b u_13 v_word v_kF)) (wr := [(a_wo, .inr (10, [.ref a_mc, .ref a_ins])), (a_ins, .inr (4, [.ref a_mc, .ref a_me, .int v_op, .int v_i, .int v_r, .int v_s, .int v_a, .int v_b]))]) hP hD [2, 3, 4, 5] [0, 1] [0, 1, 2, 3, 4, 5] rfl rfl (by decide) (by decide) hk9 hFc hB9 ht9 (by decide) rfl
  clear hB9 hk9 hz9 hvm9 ht9 hFc hPc hDc
  generalize H1 = H at hP hS ⊢
  refine lv_aload_n hx hb dX10_demandOperand_16 rfl (lv_at hl 0 rfl) ?_
  refine va_get (D := D) (ci := 10) (v := .ref a_mc) (C := RX10) (T := TX10) (N := 2) hx hb hts in_X10 hown hK hP 0 rfl rfl 0 (by decide) q_0 (fun _ h9 => h9) rfl dX10_demandOperand_17 ?_
  refine lv_aload_n hx hb dX10_demandOperand_20 rfl (lv_at hl 0 rfl) ?_
  refine va_get (D := D) (ci := 10) (v := .ref a_ins) (C := RX10) (T := TX10) (N := 2) hx hb hts in_X10 hown hK hP 0 rfl rfl 1 (by decide) q_1 (fun _ h9 => h9) rfl dX10_demandOperand_21 ?_
  refine va_getN (D := D) (ci := 4) (v := .int v_a) (C := RX4) (T := TX4) (N := 8) hx hb hts in_X4 hown hK hP 1 rfl rfl 6 (by decide) n_0 (fun _ h9 => h9) rfl dX10_demandOperand_24 ?_
  refine lv_iload_n hx hb dX10_demandOperand_27 rfl (lv_at hl 1 rfl) ?_
  have hPc : va_P D vwCl (wX5_demandAligned cI cB a_mc a_me a_ps a_rg u_13) H := hP.sub [2] rfl
  have hDc : va_D A (wX5_demandAligned cI cB a_mc a_me a_ps a_rg u_13) := hD.sub [2] (by decide) rfl
  have hFc := va_free (wc := (wX5_demandAligned cI cB a_mc a_me a_ps a_rg u_13)) hD hS hA [2] rfl
  refine va_callv (va_runV (As := [.int v_a, .int x0]) (rest := []) ⟨hx, hb, hml, hown, hts⟩ (kX5_demandAligned l D cI cB a_mc a_me a_ps a_rg H.size u_13 v_a x0) (cwV 2 hts (gd_V wd_498 wd_62 wd_63 wd_24 wd_56) rfl rfl rfl hdX5_demandAligned ⟨Nat.le_of_ble_eq_true rfl, Nat.le_of_ble_eq_true rfl⟩) (preV_std (ci := 5) (q0 := 0) hPc hK hDc hNW rfl rfl) rfl rfl hl.1 rfl (lv_room (Nat.le_of_ble_eq_true rfl)) dX10_demandOperand_28 ⟨Nat.zero_le _, Nat.zero_le _⟩) hS (fun q _ h => hFc q h) hFc (fun u_28 t9 H1 locs ht9 hvm9 hw9 hB9 hz9 hk9 hS => ?_)
  have eu_28 : u_28 = fX5_demandAligned v_a x0 u_13 := hw9
  obtain ⟨hP, hD⟩ := back_std (w1 := (wX5_demandAligned cI cB a_mc a_me a_ps a_rg u_28)) (w2 := (wX10_demandOperand cI cB a_wo a_ins a_mc a_me a_ps a_by a_ks a_rg v_op v_i v_r v_s v_a v_b u_28 v_word v_kF)) (wr := [(a_wo, .inr (10, [.ref a_mc, .ref a_ins])), (a_ins, .inr (4, [.ref a_mc, .ref a_me, .int v_op, .int v_i, .int v_r, .int v_s, .int v_a, .int v_b])), (a_me, .inr (6, [.ref a_by, .ref a_ks])), (a_ps, .inr (7, [.long v_word])), (a_ks, .inl (cI, 4, .inl v_kF))]) hP hD [2] [0, 1, 3, 4, 5] [0, 1, 5, 2, 3, 4] rfl rfl (by decide) (by decide) hk9 hFc hB9 ht9 (by decide) rfl
  clear hB9 hk9 hz9 hvm9 ht9 hFc hPc hDc
  generalize H1 = H at hP hS ⊢
  have hf9 : u_28 = fX10_demandOperand x0 x1 v_a v_fault v_word v_kF := by simp only [fX10_demandOperand, ← eu_13, ← eu_28]
  exact W.vret hx hb hr (fun t9 ht9 hW9 => ⟨⟨u_28, rfl, hf9, ⟨by rw [ht9]; exact hP, va_K.moved hW9.alike hK, hD⟩⟩, hS.F ht9⟩) hS.2.2 dX10_demandOperand_31
theorem hdX10_demandOperand : yX10_demandOperand.cls = RX10 ∧ yX10_demandOperand.cls ≠ "java/lang/invoke/MethodHandle" ∧ yX10_demandOperand.cls ≠ "java/lang/invoke/VarHandle" ∧ (parseMethodDescriptor yX10_demandOperand.desc).map (fun d => d.parameters.length) = some 2 := by decide +kernel
noncomputable def fX10_withSign (x0 : Int32) (v_op : Int32) (v_r : Int32) (v_fault : Int32) (v_word : Int64) (v_rF : (Nat → Int32)) : (Int32 × Int64 × (Nat → Int32)) :=
  if v_op = 16 then (let u_38 := fX10_signed (if 0 < (x0 : Int32).toInt64 then (x0 : Int32).toInt64 else -(x0 : Int32).toInt64) v_r v_fault v_word v_rF; (u_38.1, u_38.2.1, u_38.2.2)) else (if v_op = 17 then (let u_51 := fX10_signed (-(if 0 < (x0 : Int32).toInt64 then (x0 : Int32).toInt64 else -(x0 : Int32).toInt64)) v_r v_fault v_word v_rF; (u_51.1, u_51.2.1, u_51.2.2)) else (if v_op = 18 then (let u_60 := fX10_signed ((x0 : Int32).toInt64) v_r v_fault v_word v_rF; (u_60.1, u_60.2.1, u_60.2.2)) else (let u_70 := fX10_signed (-(x0 : Int32).toInt64) v_r v_fault v_word v_rF; (u_70.1, u_70.2.1, u_70.2.2))))
abbrev wX10_withSign (cI cB : ClassId) (a_wo a_ins a_mc a_me a_ps a_rg : Nat) (v_op : Int32) (v_i : Int32) (v_r : Int32) (v_s : Int32) (v_a : Int32) (v_b : Int32) (v_fault : Int32) (v_word : Int64) (v_rF : (Nat → Int32)) : va_W := [(a_wo, .inr (10, [.ref a_mc, .ref a_ins])), (a_ins, .inr (4, [.ref a_mc, .ref a_me, .int v_op, .int v_i, .int v_r, .int v_s, .int v_a, .int v_b])), (a_mc, .inr (5, [.ref a_me, .ref a_ps, .ref a_rg, .int v_fault])), (a_ps, .inr (7, [.long v_word])), (a_rg, .inl (cI, 16, .inl v_rF))]
abbrev rmX10_withSign : Room := { frames := 3, cells := 0, slots := 0, locals := 65 }
abbrev qX10_withSign (D : va_G) (cI cB : ClassId) (a_wo a_ins a_mc a_me a_ps a_rg : Nat) (v_op : Int32) (v_i : Int32) (v_r : Int32) (v_s : Int32) (v_a : Int32) (v_b : Int32) (v_fault : Int32) (v_word : Int64) (v_rF : (Nat → Int32)) (x0 : Int32) : (Nat → Prop) → Array Value → State → Outcome → State → Prop := fun A9 => va_Qv (fun (u9 : (Int32 × Int64 × (Nat → Int32))) => u9 = fX10_withSign x0 v_op v_r v_fault v_word v_rF) (fun u9 t9 => atW D (TYS cI cB) A9 (wX10_withSign cI cB a_wo a_ins a_mc a_me a_ps a_rg v_op v_i v_r v_s v_a v_b u9.1 u9.2.1 u9.2.2) t9) A9
set_option maxHeartbeats 4000000 in
set_option maxRecDepth 100000 in
theorem kX10_withSign (l : Launch) (D : va_G) (cI cB : ClassId) (a_wo a_ins a_mc a_me a_ps a_rg : Nat) (sz : Nat) (v_op : Int32) (v_i : Int32) (v_r : Int32) (v_s : Int32) (v_a : Int32) (v_b : Int32) (v_fault : Int32) (v_word : Int64) (v_rF : (Nat → Int32)) (x0 : Int32) : MetW l yX10_withSign (WK yX10_withSign cX10_withSign 2 none) rmX10_withSign D (TYS cI cB) (wX10_withSign cI cB a_wo a_ins a_mc a_me a_ps a_rg v_op v_i v_r v_s v_a v_b v_fault v_word v_rF) sz [.ref a_wo, .int x0] (qX10_withSign D cI cB a_wo a_ins a_mc a_me a_ps a_rg v_op v_i v_r v_s v_a v_b v_fault v_word v_rF x0) 0 0 := by
  refine met_std (by decide) rfl (Nat.le_of_ble_eq_true rfl) ?_
  intro p e s m below meth c A ls H hx hb hr hml hown hts hlocks hA hP hK hD hS hNW hl
  have hl : lv_has ls 2 [(0, .ref a_wo), (1, .int x0)] := hl
  have q_0 := hts _ (List.mem_cons_of_mem _ wd_486)
  have q_1 := hts _ (List.mem_cons_of_mem _ wd_491)
  have q_2 := hts _ (List.mem_cons_of_mem _ wd_165)
  have q_3 := hts _ (List.mem_cons_of_mem _ wd_156)
  have q_4 := hts _ (List.mem_cons_of_mem _ wd_166)
  have n_0 := hNW.f (A := ([.ref a_wo, .int x0] : List Value).toArray) ("MainframeCore$Words", 19, "MainframeCore$Instruction", "operation", "I", "MainframeCore") (by decide +kernel)
  refine lv_aload_n hx hb dX10_withSign_0 rfl (lv_at hl 0 rfl) ?_
  refine va_get (D := D) (ci := 10) (v := .ref a_ins) (C := RX10) (T := TX10) (N := 2) hx hb hts in_X10 hown hK hP 0 rfl rfl 1 (by decide) q_0 (fun _ h9 => h9) rfl dX10_withSign_1 ?_
  refine va_getN (D := D) (ci := 4) (v := .int v_op) (C := RX4) (T := TX4) (N := 8) hx hb hts in_X4 hown hK hP 1 rfl rfl 2 (by decide) n_0 (fun _ h9 => h9) rfl dX10_withSign_4 ?_
  by_cases c_7_0 : v_op = 16
  · skip
    refine lv_tableIn (tgt := 32) (off := 25) hx hb dX10_withSign_7 (by rw [c_7_0]; decide) (by rw [c_7_0]; decide) (by rw [c_7_0]; rfl) (by decide) ?_
    refine lv_aload_n hx hb dX10_withSign_32 rfl (lv_at hl 0 rfl) ?_
    refine lv_iload_n hx hb dX10_withSign_33 rfl (lv_at hl 1 rfl) ?_
    refine lv_i2l hx hb dX10_withSign_34 rfl ?_
    refine va_mabs_long hx hb (hml.trans hl.1.symm) hown q_1 q_2 q_3 q_4 (Nat.le_of_ble_eq_true rfl) (Nat.le_of_ble_eq_true rfl) (Nat.zero_le _) (Nat.zero_le _) dX10_withSign_35 ?_
    have hPc : va_P D vwCl (wX10_signed cI cB a_wo a_ins a_mc a_me a_ps a_rg v_op v_i v_r v_s v_a v_b v_fault v_word v_rF) H := hP.sub [0, 1, 2, 3, 4] rfl
    have hDc : va_D A (wX10_signed cI cB a_wo a_ins a_mc a_me a_ps a_rg v_op v_i v_r v_s v_a v_b v_fault v_word v_rF) := hD.sub [0, 1, 2, 3, 4] (by decide) rfl
    have hFc := va_free (wc := (wX10_signed cI cB a_wo a_ins a_mc a_me a_ps a_rg v_op v_i v_r v_s v_a v_b v_fault v_word v_rF)) hD hS hA [0, 1, 2, 3, 4] rfl
    refine va_callv (va_runV (As := [.long ((if 0 < (x0 : Int32).toInt64 then (x0 : Int32).toInt64 else -(x0 : Int32).toInt64))]) (rest := []) ⟨hx, hb, hml, hown, hts⟩ (kX10_signed l D cI cB a_wo a_ins a_mc a_me a_ps a_rg H.size v_op v_i v_r v_s v_a v_b v_fault v_word v_rF (if 0 < (x0 : Int32).toInt64 then (x0 : Int32).toInt64 else -(x0 : Int32).toInt64)) (cwV 1 hts (gd_V wd_492 wd_493 wd_494 wd_495 wd_490) rfl rfl rfl hdX10_signed ⟨Nat.le_of_ble_eq_true rfl, Nat.le_of_ble_eq_true rfl⟩) (preV_std (ci := 10) (q0 := 0) hPc hK hDc hNW rfl rfl) rfl rfl hl.1 rfl (lv_room (Nat.le_of_ble_eq_true rfl)) dX10_withSign_38 ⟨Nat.zero_le _, Nat.zero_le _⟩) hS (fun q _ h => hFc q h) hFc (fun u_38 t9 H1 locs ht9 hvm9 hw9 hB9 hz9 hk9 hS => ?_)
    have eu_38 : u_38 = fX10_signed (if 0 < (x0 : Int32).toInt64 then (x0 : Int32).toInt64 else -(x0 : Int32).toInt64) v_r v_fault v_word v_rF := hw9
    obtain ⟨hP, hD⟩ := back_std (w1 := (wX10_signed cI cB a_wo a_ins a_mc a_me a_ps a_rg v_op v_i v_r v_s v_a v_b u_38.1 u_38.2.1 u_38.2.2)) (w2 := (wX10_withSign cI cB a_wo a_ins a_mc a_me a_ps a_rg v_op v_i v_r v_s v_a v_b u_38.1 u_38.2.1 u_38.2.2)) (wr := []) hP hD [0, 1, 2, 3, 4] [] [0, 1, 2, 3, 4] rfl rfl (by decide) (by decide) hk9 hFc hB9 ht9 (by decide) rfl
    clear hB9 hk9 hz9 hvm9 ht9 hFc hPc hDc
    generalize H1 = H at hP hS ⊢
    refine lv_goto (tgt := 73) hx hb dX10_withSign_41 (by decide) ?_
    have hf9 : (u_38.1, u_38.2.1, u_38.2.2) = fX10_withSign x0 v_op v_r v_fault v_word v_rF := by simp only [fX10_withSign, ← eu_38, if_pos c_7_0]
    exact W.vret hx hb hr (fun t9 ht9 hW9 => ⟨⟨(u_38.1, u_38.2.1, u_38.2.2), rfl, hf9, ⟨by rw [ht9]; exact hP, va_K.moved hW9.alike hK, hD⟩⟩, hS.F ht9⟩) hS.2.2 dX10_withSign_73
  · skip
    by_cases c_7_1 : v_op = 17
    · skip
      refine lv_tableIn (tgt := 44) (off := 37) hx hb dX10_withSign_7 (by rw [c_7_1]; decide) (by rw [c_7_1]; decide) (by rw [c_7_1]; rfl) (by decide) ?_
      refine lv_aload_n hx hb dX10_withSign_44 rfl (lv_at hl 0 rfl) ?_
      refine lv_iload_n hx hb dX10_withSign_45 rfl (lv_at hl 1 rfl) ?_
      refine lv_i2l hx hb dX10_withSign_46 rfl ?_
      refine va_mabs_long hx hb (hml.trans hl.1.symm) hown q_1 q_2 q_3 q_4 (Nat.le_of_ble_eq_true rfl) (Nat.le_of_ble_eq_true rfl) (Nat.zero_le _) (Nat.zero_le _) dX10_withSign_47 ?_
      refine lv_lneg hx hb dX10_withSign_50 ?_
      have hPc : va_P D vwCl (wX10_signed cI cB a_wo a_ins a_mc a_me a_ps a_rg v_op v_i v_r v_s v_a v_b v_fault v_word v_rF) H := hP.sub [0, 1, 2, 3, 4] rfl
      have hDc : va_D A (wX10_signed cI cB a_wo a_ins a_mc a_me a_ps a_rg v_op v_i v_r v_s v_a v_b v_fault v_word v_rF) := hD.sub [0, 1, 2, 3, 4] (by decide) rfl
      have hFc := va_free (wc := (wX10_signed cI cB a_wo a_ins a_mc a_me a_ps a_rg v_op v_i v_r v_s v_a v_b v_fault v_word v_rF)) hD hS hA [0, 1, 2, 3, 4] rfl
      refine va_callv (va_runV (As := [.long ((-(if 0 < (x0 : Int32).toInt64 then (x0 : Int32).toInt64 else -(x0 : Int32).toInt64)))]) (rest := []) ⟨hx, hb, hml, hown, hts⟩ (kX10_signed l D cI cB a_wo a_ins a_mc a_me a_ps a_rg H.size v_op v_i v_r v_s v_a v_b v_fault v_word v_rF (-(if 0 < (x0 : Int32).toInt64 then (x0 : Int32).toInt64 else -(x0 : Int32).toInt64))) (cwV 1 hts (gd_V wd_492 wd_493 wd_494 wd_495 wd_490) rfl rfl rfl hdX10_signed ⟨Nat.le_of_ble_eq_true rfl, Nat.le_of_ble_eq_true rfl⟩) (preV_std (ci := 10) (q0 := 0) hPc hK hDc hNW rfl rfl) rfl rfl hl.1 rfl (lv_room (Nat.le_of_ble_eq_true rfl)) dX10_withSign_51 ⟨Nat.zero_le _, Nat.zero_le _⟩) hS (fun q _ h => hFc q h) hFc (fun u_51 t9 H1 locs ht9 hvm9 hw9 hB9 hz9 hk9 hS => ?_)
      have eu_51 : u_51 = fX10_signed (-(if 0 < (x0 : Int32).toInt64 then (x0 : Int32).toInt64 else -(x0 : Int32).toInt64)) v_r v_fault v_word v_rF := hw9
      obtain ⟨hP, hD⟩ := back_std (w1 := (wX10_signed cI cB a_wo a_ins a_mc a_me a_ps a_rg v_op v_i v_r v_s v_a v_b u_51.1 u_51.2.1 u_51.2.2)) (w2 := (wX10_withSign cI cB a_wo a_ins a_mc a_me a_ps a_rg v_op v_i v_r v_s v_a v_b u_51.1 u_51.2.1 u_51.2.2)) (wr := []) hP hD [0, 1, 2, 3, 4] [] [0, 1, 2, 3, 4] rfl rfl (by decide) (by decide) hk9 hFc hB9 ht9 (by decide) rfl
      clear hB9 hk9 hz9 hvm9 ht9 hFc hPc hDc
      generalize H1 = H at hP hS ⊢
      refine lv_goto (tgt := 73) hx hb dX10_withSign_54 (by decide) ?_
      have hf9 : (u_51.1, u_51.2.1, u_51.2.2) = fX10_withSign x0 v_op v_r v_fault v_word v_rF := by simp only [fX10_withSign, ← eu_51, if_neg c_7_0, if_pos c_7_1]
      exact W.vret hx hb hr (fun t9 ht9 hW9 => ⟨⟨(u_51.1, u_51.2.1, u_51.2.2), rfl, hf9, ⟨by rw [ht9]; exact hP, va_K.moved hW9.alike hK, hD⟩⟩, hS.F ht9⟩) hS.2.2 dX10_withSign_73
    · skip
      by_cases c_7_2 : v_op = 18
      · skip
        refine lv_tableIn (tgt := 57) (off := 50) hx hb dX10_withSign_7 (by rw [c_7_2]; decide) (by rw [c_7_2]; decide) (by rw [c_7_2]; rfl) (by decide) ?_
        refine lv_aload_n hx hb dX10_withSign_57 rfl (lv_at hl 0 rfl) ?_
        refine lv_iload_n hx hb dX10_withSign_58 rfl (lv_at hl 1 rfl) ?_
        refine lv_i2l hx hb dX10_withSign_59 rfl ?_
        have hPc : va_P D vwCl (wX10_signed cI cB a_wo a_ins a_mc a_me a_ps a_rg v_op v_i v_r v_s v_a v_b v_fault v_word v_rF) H := hP.sub [0, 1, 2, 3, 4] rfl
        have hDc : va_D A (wX10_signed cI cB a_wo a_ins a_mc a_me a_ps a_rg v_op v_i v_r v_s v_a v_b v_fault v_word v_rF) := hD.sub [0, 1, 2, 3, 4] (by decide) rfl
        have hFc := va_free (wc := (wX10_signed cI cB a_wo a_ins a_mc a_me a_ps a_rg v_op v_i v_r v_s v_a v_b v_fault v_word v_rF)) hD hS hA [0, 1, 2, 3, 4] rfl
        refine va_callv (va_runV (As := [.long (x0 : Int32).toInt64]) (rest := []) ⟨hx, hb, hml, hown, hts⟩ (kX10_signed l D cI cB a_wo a_ins a_mc a_me a_ps a_rg H.size v_op v_i v_r v_s v_a v_b v_fault v_word v_rF ((x0 : Int32).toInt64)) (cwV 1 hts (gd_V wd_492 wd_493 wd_494 wd_495 wd_490) rfl rfl rfl hdX10_signed ⟨Nat.le_of_ble_eq_true rfl, Nat.le_of_ble_eq_true rfl⟩) (preV_std (ci := 10) (q0 := 0) hPc hK hDc hNW rfl rfl) rfl rfl hl.1 rfl (lv_room (Nat.le_of_ble_eq_true rfl)) dX10_withSign_60 ⟨Nat.zero_le _, Nat.zero_le _⟩) hS (fun q _ h => hFc q h) hFc (fun u_60 t9 H1 locs ht9 hvm9 hw9 hB9 hz9 hk9 hS => ?_)
        have eu_60 : u_60 = fX10_signed ((x0 : Int32).toInt64) v_r v_fault v_word v_rF := hw9
        obtain ⟨hP, hD⟩ := back_std (w1 := (wX10_signed cI cB a_wo a_ins a_mc a_me a_ps a_rg v_op v_i v_r v_s v_a v_b u_60.1 u_60.2.1 u_60.2.2)) (w2 := (wX10_withSign cI cB a_wo a_ins a_mc a_me a_ps a_rg v_op v_i v_r v_s v_a v_b u_60.1 u_60.2.1 u_60.2.2)) (wr := []) hP hD [0, 1, 2, 3, 4] [] [0, 1, 2, 3, 4] rfl rfl (by decide) (by decide) hk9 hFc hB9 ht9 (by decide) rfl
        clear hB9 hk9 hz9 hvm9 ht9 hFc hPc hDc
        generalize H1 = H at hP hS ⊢
        refine lv_goto (tgt := 73) hx hb dX10_withSign_63 (by decide) ?_
        have hf9 : (u_60.1, u_60.2.1, u_60.2.2) = fX10_withSign x0 v_op v_r v_fault v_word v_rF := by simp only [fX10_withSign, ← eu_60, if_neg c_7_0, if_neg c_7_1, if_pos c_7_2]
        exact W.vret hx hb hr (fun t9 ht9 hW9 => ⟨⟨(u_60.1, u_60.2.1, u_60.2.2), rfl, hf9, ⟨by rw [ht9]; exact hP, va_K.moved hW9.alike hK, hD⟩⟩, hS.F ht9⟩) hS.2.2 dX10_withSign_73
      · skip
        refine sw_def (tgt := 66) hx hb [16, 17, 18] dX10_withSign_7 (by decide) (by decide) ?_ (by decide) ?_
        · intro v hv he
          simp only [List.mem_cons, List.not_mem_nil, or_false] at hv
          have hx9 : v_op = Int32.ofInt v := by rw [← he, Int32.ofInt_toInt]
          revert hx9
          rcases hv with rfl | rfl | rfl <;> intro hx9 <;> first | exact c_7_0 (by rw [hx9]; decide) | exact c_7_1 (by rw [hx9]; decide) | exact c_7_2 (by rw [hx9]; decide)
        · skip
          refine lv_aload_n hx hb dX10_withSign_66 rfl (lv_at hl 0 rfl) ?_
          refine lv_iload_n hx hb dX10_withSign_67 rfl (lv_at hl 1 rfl) ?_
          refine lv_i2l hx hb dX10_withSign_68 rfl ?_
          refine lv_lneg hx hb dX10_withSign_69 ?_
          have hPc : va_P D vwCl (wX10_signed cI cB a_wo a_ins a_mc a_me a_ps a_rg v_op v_i v_r v_s v_a v_b v_fault v_word v_rF) H := hP.sub [0, 1, 2, 3, 4] rfl
          have hDc : va_D A (wX10_signed cI cB a_wo a_ins a_mc a_me a_ps a_rg v_op v_i v_r v_s v_a v_b v_fault v_word v_rF) := hD.sub [0, 1, 2, 3, 4] (by decide) rfl
          have hFc := va_free (wc := (wX10_signed cI cB a_wo a_ins a_mc a_me a_ps a_rg v_op v_i v_r v_s v_a v_b v_fault v_word v_rF)) hD hS hA [0, 1, 2, 3, 4] rfl
          refine va_callv (va_runV (As := [.long ((-(x0 : Int32).toInt64))]) (rest := []) ⟨hx, hb, hml, hown, hts⟩ (kX10_signed l D cI cB a_wo a_ins a_mc a_me a_ps a_rg H.size v_op v_i v_r v_s v_a v_b v_fault v_word v_rF (-(x0 : Int32).toInt64)) (cwV 1 hts (gd_V wd_492 wd_493 wd_494 wd_495 wd_490) rfl rfl rfl hdX10_signed ⟨Nat.le_of_ble_eq_true rfl, Nat.le_of_ble_eq_true rfl⟩) (preV_std (ci := 10) (q0 := 0) hPc hK hDc hNW rfl rfl) rfl rfl hl.1 rfl (lv_room (Nat.le_of_ble_eq_true rfl)) dX10_withSign_70 ⟨Nat.zero_le _, Nat.zero_le _⟩) hS (fun q _ h => hFc q h) hFc (fun u_70 t9 H1 locs ht9 hvm9 hw9 hB9 hz9 hk9 hS => ?_)
          have eu_70 : u_70 = fX10_signed (-(x0 : Int32).toInt64) v_r v_fault v_word v_rF := hw9
          obtain ⟨hP, hD⟩ := back_std (w1 := (wX10_signed cI cB a_wo a_ins a_mc a_me a_ps a_rg v_op v_i v_r v_s v_a v_b u_70.1 u_70.2.1 u_70.2.2)) (w2 := (wX10_withSign cI cB a_wo a_ins a_mc a_me a_ps a_rg v_op v_i v_r v_s v_a v_b u_70.1 u_70.2.1 u_70.2.2)) (wr := []) hP hD [0, 1, 2, 3, 4] [] [0, 1, 2, 3, 4] rfl rfl (by decide) (by decide) hk9 hFc hB9 ht9 (by decide) rfl
          clear hB9 hk9 hz9 hvm9 ht9 hFc hPc hDc
          generalize H1 = H at hP hS ⊢
          have hf9 : (u_70.1, u_70.2.1, u_70.2.2) = fX10_withSign x0 v_op v_r v_fault v_word v_rF := by simp only [fX10_withSign, ← eu_70, if_neg c_7_0, if_neg c_7_1, if_neg c_7_2]
          exact W.vret hx hb hr (fun t9 ht9 hW9 => ⟨⟨(u_70.1, u_70.2.1, u_70.2.2), rfl, hf9, ⟨by rw [ht9]; exact hP, va_K.moved hW9.alike hK, hD⟩⟩, hS.F ht9⟩) hS.2.2 dX10_withSign_73
theorem hdX10_withSign : yX10_withSign.cls = RX10 ∧ yX10_withSign.cls ≠ "java/lang/invoke/MethodHandle" ∧ yX10_withSign.cls ≠ "java/lang/invoke/VarHandle" ∧ (parseMethodDescriptor yX10_withSign.desc).map (fun d => d.parameters.length) = some 1 := by decide +kernel
noncomputable def fX10_combineWord (v_op : Int32) (v_r : Int32) (v_a : Int32) (v_fault : Int32) (v_word : Int64) (v_bF : (Nat → Int32)) (v_kF : (Nat → Int32)) (v_rF : (Nat → Int32)) : (Int32 × Int64 × (Nat → Int32)) :=
  let u_3 := fX10_demandOperand 4 0 v_a v_fault v_word v_kF
  let r_10 := fX5_fine u_3
  if r_10 = 0 then ((u_3, v_word, v_rF)) else (let r_31 := fX6_word v_a v_bF; let u_34 := fX10_combine r_31 v_op v_r u_3 v_word v_rF; (u_34.1, u_34.2.1, u_34.2.2))
abbrev wX10_combineWord (cI cB : ClassId) (a_wo a_ins a_mc a_me a_ps a_by a_ks a_rg : Nat) (v_op : Int32) (v_i : Int32) (v_r : Int32) (v_s : Int32) (v_a : Int32) (v_b : Int32) (v_fault : Int32) (v_word : Int64) (v_bF : (Nat → Int32)) (v_kF : (Nat → Int32)) (v_rF : (Nat → Int32)) : va_W := [(a_wo, .inr (10, [.ref a_mc, .ref a_ins])), (a_ins, .inr (4, [.ref a_mc, .ref a_me, .int v_op, .int v_i, .int v_r, .int v_s, .int v_a, .int v_b])), (a_mc, .inr (5, [.ref a_me, .ref a_ps, .ref a_rg, .int v_fault])), (a_me, .inr (6, [.ref a_by, .ref a_ks])), (a_ps, .inr (7, [.long v_word])), (a_by, .inl (cB, 8192, .inl v_bF)), (a_ks, .inl (cI, 4, .inl v_kF)), (a_rg, .inl (cI, 16, .inl v_rF))]
abbrev rmX10_combineWord : Room := { frames := 4, cells := 0, slots := 0, locals := 89 }
abbrev qX10_combineWord (D : va_G) (cI cB : ClassId) (a_wo a_ins a_mc a_me a_ps a_by a_ks a_rg : Nat) (v_op : Int32) (v_i : Int32) (v_r : Int32) (v_s : Int32) (v_a : Int32) (v_b : Int32) (v_fault : Int32) (v_word : Int64) (v_bF : (Nat → Int32)) (v_kF : (Nat → Int32)) (v_rF : (Nat → Int32)) : (Nat → Prop) → Array Value → State → Outcome → State → Prop := fun A9 => va_Qv (fun (u9 : (Int32 × Int64 × (Nat → Int32))) => u9 = fX10_combineWord v_op v_r v_a v_fault v_word v_bF v_kF v_rF) (fun u9 t9 => atW D (TYS cI cB) A9 (wX10_combineWord cI cB a_wo a_ins a_mc a_me a_ps a_by a_ks a_rg v_op v_i v_r v_s v_a v_b u9.1 u9.2.1 v_bF v_kF u9.2.2) t9) A9
set_option maxHeartbeats 4000000 in
set_option maxRecDepth 100000 in
theorem kX10_combineWord (l : Launch) (D : va_G) (cI cB : ClassId) (a_wo a_ins a_mc a_me a_ps a_by a_ks a_rg : Nat) (sz : Nat) (v_op : Int32) (v_i : Int32) (v_r : Int32) (v_s : Int32) (v_a : Int32) (v_b : Int32) (v_fault : Int32) (v_word : Int64) (v_bF : (Nat → Int32)) (v_kF : (Nat → Int32)) (v_rF : (Nat → Int32)) : MetW l yX10_combineWord (WK yX10_combineWord cX10_combineWord 1 none) rmX10_combineWord D (TYS cI cB) (wX10_combineWord cI cB a_wo a_ins a_mc a_me a_ps a_by a_ks a_rg v_op v_i v_r v_s v_a v_b v_fault v_word v_bF v_kF v_rF) sz [.ref a_wo] (qX10_combineWord D cI cB a_wo a_ins a_mc a_me a_ps a_by a_ks a_rg v_op v_i v_r v_s v_a v_b v_fault v_word v_bF v_kF v_rF) 0 0 := by
  refine met_std (by decide) rfl (Nat.le_of_ble_eq_true rfl) ?_
  intro p e s m below meth c A ls H hx hb hr hml hown hts hlocks hA hP hK hD hS hNW hl
  have hl : lv_has ls 1 [(0, .ref a_wo)] := hl
  have q_0 := hts _ (List.mem_cons_of_mem _ wd_485)
  have q_1 := hts _ (List.mem_cons_of_mem _ wd_486)
  have n_0 := hNW.f (A := ([.ref a_wo] : List Value).toArray) ("MainframeCore$Words", 45, "MainframeCore$Machine", "memory", "LMainframeCore$Memory;", "MainframeCore") (by decide +kernel)
  have n_1 := hNW.f (A := ([.ref a_wo] : List Value).toArray) ("MainframeCore$Words", 49, "MainframeCore$Instruction", "a", "I", "MainframeCore") (by decide +kernel)
  refine lv_aload_n hx hb dX10_combineWord_0 rfl (lv_at hl 0 rfl) ?_
  refine lv_iconst (v := 4) hx hb dX10_combineWord_1 (by decide) ?_
  refine lv_iconst (v := 0) hx hb dX10_combineWord_2 (by decide) ?_
  have hPc : va_P D vwCl (wX10_demandOperand cI cB a_wo a_ins a_mc a_me a_ps a_by a_ks a_rg v_op v_i v_r v_s v_a v_b v_fault v_word v_kF) H := hP.sub [0, 1, 2, 3, 4, 6] rfl
  have hDc : va_D A (wX10_demandOperand cI cB a_wo a_ins a_mc a_me a_ps a_by a_ks a_rg v_op v_i v_r v_s v_a v_b v_fault v_word v_kF) := hD.sub [0, 1, 2, 3, 4, 6] (by decide) rfl
  have hFc := va_free (wc := (wX10_demandOperand cI cB a_wo a_ins a_mc a_me a_ps a_by a_ks a_rg v_op v_i v_r v_s v_a v_b v_fault v_word v_kF)) hD hS hA [0, 1, 2, 3, 4, 6] rfl
  refine va_callv (va_runV (As := [.int 4, .int 0]) (rest := []) ⟨hx, hb, hml, hown, hts⟩ (kX10_demandOperand l D cI cB a_wo a_ins a_mc a_me a_ps a_by a_ks a_rg H.size v_op v_i v_r v_s v_a v_b v_fault v_word v_kF 4 0) (cwV 2 hts (gd_V wd_528 wd_529 wd_530 wd_495 wd_499) rfl rfl rfl hdX10_demandOperand ⟨Nat.le_of_ble_eq_true rfl, Nat.le_of_ble_eq_true rfl⟩) (preV_std (ci := 10) (q0 := 0) hPc hK hDc hNW rfl rfl) rfl rfl hl.1 rfl (lv_room (Nat.le_of_ble_eq_true rfl)) dX10_combineWord_3 ⟨Nat.zero_le _, Nat.zero_le _⟩) hS (fun q _ h => hFc q h) hFc (fun u_3 t9 H1 locs ht9 hvm9 hw9 hB9 hz9 hk9 hS => ?_)
  have eu_3 : u_3 = fX10_demandOperand 4 0 v_a v_fault v_word v_kF := hw9
  obtain ⟨hP, hD⟩ := back_std (w1 := (wX10_demandOperand cI cB a_wo a_ins a_mc a_me a_ps a_by a_ks a_rg v_op v_i v_r v_s v_a v_b u_3 v_word v_kF)) (w2 := (wX10_combineWord cI cB a_wo a_ins a_mc a_me a_ps a_by a_ks a_rg v_op v_i v_r v_s v_a v_b u_3 v_word v_bF v_kF v_rF)) (wr := [(a_by, .inl (cB, 8192, .inl v_bF)), (a_rg, .inl (cI, 16, .inl v_rF))]) hP hD [0, 1, 2, 3, 4, 6] [5, 7] [2, 3, 4, 5, 6, 0, 7, 1] rfl rfl (by decide) (by decide) hk9 hFc hB9 ht9 (by decide) rfl
  clear hB9 hk9 hz9 hvm9 ht9 hFc hPc hDc
  generalize H1 = H at hP hS ⊢
  refine lv_aload_n hx hb dX10_combineWord_6 rfl (lv_at hl 0 rfl) ?_
  refine va_get (D := D) (ci := 10) (v := .ref a_mc) (C := RX10) (T := TX10) (N := 2) hx hb hts in_X10 hown hK hP 0 rfl rfl 0 (by decide) q_0 (fun _ h9 => h9) rfl dX10_combineWord_7 ?_
  have hPc : va_P D vwCl (wX5_fine cI cB a_mc a_me a_ps a_rg u_3) H := hP.sub [2] rfl
  have hDc : va_D A (wX5_fine cI cB a_mc a_me a_ps a_rg u_3) := hD.sub [2] (by decide) rfl
  have hFc := va_free (wc := (wX5_fine cI cB a_mc a_me a_ps a_rg u_3)) hD hS hA [2] rfl
  refine va_calli (va_runV (As := []) (rest := []) ⟨hx, hb, hml, hown, hts⟩ (kX5_fine l D cI cB a_mc a_me a_ps a_rg H.size u_3 ) (cwV 0 hts (gd_V wd_503 wd_73 wd_74 wd_24 wd_66) rfl rfl rfl hdX5_fine ⟨Nat.le_of_ble_eq_true rfl, Nat.le_of_ble_eq_true rfl⟩) (preV_std (ci := 5) (q0 := 0) hPc hK hDc hNW rfl rfl) rfl rfl hl.1 rfl (lv_room (Nat.le_of_ble_eq_true rfl)) dX10_combineWord_10 ⟨Nat.zero_le _, Nat.zero_le _⟩) hS (fun q _ h => hFc q h) hFc (fun r_10 u_10 t9 H1 locs ht9 hvm9 hw9 hB9 hz9 hk9 hS => ?_)
  have er_10 : r_10 = fX5_fine u_3 := hw9
  have zr_10 : r_10 = 0 ∨ r_10 = 1 := by rw [er_10]; exact zX5_fine _
  obtain ⟨hP, hD⟩ := back_std (w1 := (wX5_fine cI cB a_mc a_me a_ps a_rg u_3)) (w2 := (wX10_combineWord cI cB a_wo a_ins a_mc a_me a_ps a_by a_ks a_rg v_op v_i v_r v_s v_a v_b u_3 v_word v_bF v_kF v_rF)) (wr := [(a_wo, .inr (10, [.ref a_mc, .ref a_ins])), (a_ins, .inr (4, [.ref a_mc, .ref a_me, .int v_op, .int v_i, .int v_r, .int v_s, .int v_a, .int v_b])), (a_me, .inr (6, [.ref a_by, .ref a_ks])), (a_ps, .inr (7, [.long v_word])), (a_by, .inl (cB, 8192, .inl v_bF)), (a_ks, .inl (cI, 4, .inl v_kF)), (a_rg, .inl (cI, 16, .inl v_rF))]) hP hD [2] [0, 1, 3, 4, 5, 6, 7] [0, 1, 7, 2, 3, 4, 5, 6] rfl rfl (by decide) (by decide) hk9 hFc hB9 ht9 (by decide) rfl
  clear hB9 hk9 hz9 hvm9 ht9 hFc hPc hDc
  generalize H1 = H at hP hS ⊢
  refine lv_if_eq (tgt := 37) hx hb dX10_combineWord_13 (by decide) (fun c_13 => ?_) (fun c_13 => ?_)
  · skip
    have hf9 : (u_3, v_word, v_rF) = fX10_combineWord v_op v_r v_a v_fault v_word v_bF v_kF v_rF := by simp only [fX10_combineWord, ← eu_3, ← er_10, if_pos c_13]
    exact W.vret hx hb hr (fun t9 ht9 hW9 => ⟨⟨(u_3, v_word, v_rF), rfl, hf9, ⟨by rw [ht9]; exact hP, va_K.moved hW9.alike hK, hD⟩⟩, hS.F ht9⟩) hS.2.2 dX10_combineWord_37
  · skip
    refine lv_aload_n hx hb dX10_combineWord_16 rfl (lv_at hl 0 rfl) ?_
    refine lv_aload_n hx hb dX10_combineWord_17 rfl (lv_at hl 0 rfl) ?_
    refine va_get (D := D) (ci := 10) (v := .ref a_mc) (C := RX10) (T := TX10) (N := 2) hx hb hts in_X10 hown hK hP 0 rfl rfl 0 (by decide) q_0 (fun _ h9 => h9) rfl dX10_combineWord_18 ?_
    refine va_getN (D := D) (ci := 5) (v := .ref a_me) (C := RX5) (T := TX5) (N := 4) hx hb hts in_X5 hown hK hP 2 rfl rfl 0 (by decide) n_0 (fun _ h9 => h9) rfl dX10_combineWord_21 ?_
    refine lv_aload_n hx hb dX10_combineWord_24 rfl (lv_at hl 0 rfl) ?_
    refine va_get (D := D) (ci := 10) (v := .ref a_ins) (C := RX10) (T := TX10) (N := 2) hx hb hts in_X10 hown hK hP 0 rfl rfl 1 (by decide) q_1 (fun _ h9 => h9) rfl dX10_combineWord_25 ?_
    refine va_getN (D := D) (ci := 4) (v := .int v_a) (C := RX4) (T := TX4) (N := 8) hx hb hts in_X4 hown hK hP 1 rfl rfl 6 (by decide) n_1 (fun _ h9 => h9) rfl dX10_combineWord_28 ?_
    have hPc : va_P D vwCl (wX6_word cI cB a_me a_by a_ks v_bF) H := hP.sub [3, 5] rfl
    have hDc : va_D A (wX6_word cI cB a_me a_by a_ks v_bF) := hD.sub [3, 5] (by decide) rfl
    have hFc := va_free (wc := (wX6_word cI cB a_me a_by a_ks v_bF)) hD hS hA [3, 5] rfl
    refine va_calli (va_runV (As := [.int v_a]) (rest := [.ref a_wo]) ⟨hx, hb, hml, hown, hts⟩ (kX6_word l D cI cB a_me a_by a_ks H.size v_bF v_a) (cwV 1 hts (gd_V wd_531 wd_532 wd_533 wd_78 wd_380) rfl rfl rfl hdX6_word ⟨Nat.le_of_ble_eq_true rfl, Nat.le_of_ble_eq_true rfl⟩) (preV_std (ci := 6) (q0 := 0) hPc hK hDc hNW rfl rfl) rfl rfl hl.1 rfl (lv_room (Nat.le_of_ble_eq_true rfl)) dX10_combineWord_31 ⟨Nat.zero_le _, Nat.zero_le _⟩) hS (fun q _ h => hFc q h) hFc (fun r_31 u_31 t9 H1 locs ht9 hvm9 hw9 hB9 hz9 hk9 hS => ?_)
    have er_31 : r_31 = fX6_word v_a v_bF := hw9
    obtain ⟨hP, hD⟩ := back_std (w1 := (wX6_word cI cB a_me a_by a_ks v_bF)) (w2 := (wX10_combineWord cI cB a_wo a_ins a_mc a_me a_ps a_by a_ks a_rg v_op v_i v_r v_s v_a v_b u_3 v_word v_bF v_kF v_rF)) (wr := [(a_wo, .inr (10, [.ref a_mc, .ref a_ins])), (a_ins, .inr (4, [.ref a_mc, .ref a_me, .int v_op, .int v_i, .int v_r, .int v_s, .int v_a, .int v_b])), (a_mc, .inr (5, [.ref a_me, .ref a_ps, .ref a_rg, .int u_3])), (a_ps, .inr (7, [.long v_word])), (a_ks, .inl (cI, 4, .inl v_kF)), (a_rg, .inl (cI, 16, .inl v_rF))]) hP hD [3, 5] [0, 1, 2, 4, 6, 7] [0, 1, 2, 6, 3, 7, 4, 5] rfl rfl (by decide) (by decide) hk9 hFc hB9 ht9 (by decide) rfl
    clear hB9 hk9 hz9 hvm9 ht9 hFc hPc hDc
    generalize H1 = H at hP hS ⊢
    have hPc : va_P D vwCl (wX10_combine cI cB a_wo a_ins a_mc a_me a_ps a_rg v_op v_i v_r v_s v_a v_b u_3 v_word v_rF) H := hP.sub [0, 1, 2, 4, 7] rfl
    have hDc : va_D A (wX10_combine cI cB a_wo a_ins a_mc a_me a_ps a_rg v_op v_i v_r v_s v_a v_b u_3 v_word v_rF) := hD.sub [0, 1, 2, 4, 7] (by decide) rfl
    have hFc := va_free (wc := (wX10_combine cI cB a_wo a_ins a_mc a_me a_ps a_rg v_op v_i v_r v_s v_a v_b u_3 v_word v_rF)) hD hS hA [0, 1, 2, 4, 7] rfl
    refine va_callv (va_runV (As := [.int r_31]) (rest := []) ⟨hx, hb, hml, hown, hts⟩ (kX10_combine l D cI cB a_wo a_ins a_mc a_me a_ps a_rg H.size v_op v_i v_r v_s v_a v_b u_3 v_word v_rF r_31) (cwV 1 hts (gd_V wd_534 wd_535 wd_536 wd_495 wd_527) rfl rfl rfl hdX10_combine ⟨Nat.le_of_ble_eq_true rfl, Nat.le_of_ble_eq_true rfl⟩) (preV_std (ci := 10) (q0 := 0) hPc hK hDc hNW rfl rfl) rfl rfl hl.1 rfl (lv_room (Nat.le_of_ble_eq_true rfl)) dX10_combineWord_34 ⟨Nat.zero_le _, Nat.zero_le _⟩) hS (fun q _ h => hFc q h) hFc (fun u_34 t9 H1 locs ht9 hvm9 hw9 hB9 hz9 hk9 hS => ?_)
    have eu_34 : u_34 = fX10_combine r_31 v_op v_r u_3 v_word v_rF := hw9
    obtain ⟨hP, hD⟩ := back_std (w1 := (wX10_combine cI cB a_wo a_ins a_mc a_me a_ps a_rg v_op v_i v_r v_s v_a v_b u_34.1 u_34.2.1 u_34.2.2)) (w2 := (wX10_combineWord cI cB a_wo a_ins a_mc a_me a_ps a_by a_ks a_rg v_op v_i v_r v_s v_a v_b u_34.1 u_34.2.1 v_bF v_kF u_34.2.2)) (wr := [(a_me, .inr (6, [.ref a_by, .ref a_ks])), (a_by, .inl (cB, 8192, .inl v_bF)), (a_ks, .inl (cI, 4, .inl v_kF))]) hP hD [0, 1, 2, 4, 7] [3, 5, 6] [3, 4, 5, 0, 6, 1, 2, 7] rfl rfl (by decide) (by decide) hk9 hFc hB9 ht9 (by decide) rfl
    clear hB9 hk9 hz9 hvm9 ht9 hFc hPc hDc
    generalize H1 = H at hP hS ⊢
    have hf9 : (u_34.1, u_34.2.1, u_34.2.2) = fX10_combineWord v_op v_r v_a v_fault v_word v_bF v_kF v_rF := by simp only [fX10_combineWord, ← eu_3, ← er_10, ← er_31, ← eu_34, if_neg c_13]
    exact W.vret hx hb hr (fun t9 ht9 hW9 => ⟨⟨(u_34.1, u_34.2.1, u_34.2.2), rfl, hf9, ⟨by rw [ht9]; exact hP, va_K.moved hW9.alike hK, hD⟩⟩, hS.F ht9⟩) hS.2.2 dX10_combineWord_37
theorem hdX10_combineWord : yX10_combineWord.cls = RX10 ∧ yX10_combineWord.cls ≠ "java/lang/invoke/MethodHandle" ∧ yX10_combineWord.cls ≠ "java/lang/invoke/VarHandle" ∧ (parseMethodDescriptor yX10_combineWord.desc).map (fun d => d.parameters.length) = some 0 := by decide +kernel
noncomputable def fX10_combineHalf (v_op : Int32) (v_r : Int32) (v_a : Int32) (v_fault : Int32) (v_word : Int64) (v_bF : (Nat → Int32)) (v_kF : (Nat → Int32)) (v_rF : (Nat → Int32)) : (Int32 × Int64 × (Nat → Int32)) :=
  let u_3 := fX10_demandOperand 2 0 v_a v_fault v_word v_kF
  let r_10 := fX5_fine u_3
  if r_10 = 0 then ((u_3, v_word, v_rF)) else (let r_31 := fX6_half v_a v_bF; let u_34 := fX10_combine r_31 v_op v_r u_3 v_word v_rF; (u_34.1, u_34.2.1, u_34.2.2))
abbrev wX10_combineHalf (cI cB : ClassId) (a_wo a_ins a_mc a_me a_ps a_by a_ks a_rg : Nat) (v_op : Int32) (v_i : Int32) (v_r : Int32) (v_s : Int32) (v_a : Int32) (v_b : Int32) (v_fault : Int32) (v_word : Int64) (v_bF : (Nat → Int32)) (v_kF : (Nat → Int32)) (v_rF : (Nat → Int32)) : va_W := [(a_wo, .inr (10, [.ref a_mc, .ref a_ins])), (a_ins, .inr (4, [.ref a_mc, .ref a_me, .int v_op, .int v_i, .int v_r, .int v_s, .int v_a, .int v_b])), (a_mc, .inr (5, [.ref a_me, .ref a_ps, .ref a_rg, .int v_fault])), (a_me, .inr (6, [.ref a_by, .ref a_ks])), (a_ps, .inr (7, [.long v_word])), (a_by, .inl (cB, 8192, .inl v_bF)), (a_ks, .inl (cI, 4, .inl v_kF)), (a_rg, .inl (cI, 16, .inl v_rF))]
abbrev rmX10_combineHalf : Room := { frames := 4, cells := 0, slots := 0, locals := 89 }
abbrev qX10_combineHalf (D : va_G) (cI cB : ClassId) (a_wo a_ins a_mc a_me a_ps a_by a_ks a_rg : Nat) (v_op : Int32) (v_i : Int32) (v_r : Int32) (v_s : Int32) (v_a : Int32) (v_b : Int32) (v_fault : Int32) (v_word : Int64) (v_bF : (Nat → Int32)) (v_kF : (Nat → Int32)) (v_rF : (Nat → Int32)) : (Nat → Prop) → Array Value → State → Outcome → State → Prop := fun A9 => va_Qv (fun (u9 : (Int32 × Int64 × (Nat → Int32))) => u9 = fX10_combineHalf v_op v_r v_a v_fault v_word v_bF v_kF v_rF) (fun u9 t9 => atW D (TYS cI cB) A9 (wX10_combineHalf cI cB a_wo a_ins a_mc a_me a_ps a_by a_ks a_rg v_op v_i v_r v_s v_a v_b u9.1 u9.2.1 v_bF v_kF u9.2.2) t9) A9
set_option maxHeartbeats 4000000 in
set_option maxRecDepth 100000 in
theorem kX10_combineHalf (l : Launch) (D : va_G) (cI cB : ClassId) (a_wo a_ins a_mc a_me a_ps a_by a_ks a_rg : Nat) (sz : Nat) (v_op : Int32) (v_i : Int32) (v_r : Int32) (v_s : Int32) (v_a : Int32) (v_b : Int32) (v_fault : Int32) (v_word : Int64) (v_bF : (Nat → Int32)) (v_kF : (Nat → Int32)) (v_rF : (Nat → Int32)) : MetW l yX10_combineHalf (WK yX10_combineHalf cX10_combineHalf 1 none) rmX10_combineHalf D (TYS cI cB) (wX10_combineHalf cI cB a_wo a_ins a_mc a_me a_ps a_by a_ks a_rg v_op v_i v_r v_s v_a v_b v_fault v_word v_bF v_kF v_rF) sz [.ref a_wo] (qX10_combineHalf D cI cB a_wo a_ins a_mc a_me a_ps a_by a_ks a_rg v_op v_i v_r v_s v_a v_b v_fault v_word v_bF v_kF v_rF) 0 0 := by
  refine met_std (by decide) rfl (Nat.le_of_ble_eq_true rfl) ?_
  intro p e s m below meth c A ls H hx hb hr hml hown hts hlocks hA hP hK hD hS hNW hl
  have hl : lv_has ls 1 [(0, .ref a_wo)] := hl
  have q_0 := hts _ (List.mem_cons_of_mem _ wd_485)
  have q_1 := hts _ (List.mem_cons_of_mem _ wd_486)
  have n_0 := hNW.f (A := ([.ref a_wo] : List Value).toArray) ("MainframeCore$Words", 45, "MainframeCore$Machine", "memory", "LMainframeCore$Memory;", "MainframeCore") (by decide +kernel)
  have n_1 := hNW.f (A := ([.ref a_wo] : List Value).toArray) ("MainframeCore$Words", 49, "MainframeCore$Instruction", "a", "I", "MainframeCore") (by decide +kernel)
  refine lv_aload_n hx hb dX10_combineHalf_0 rfl (lv_at hl 0 rfl) ?_
  refine lv_iconst (v := 2) hx hb dX10_combineHalf_1 (by decide) ?_
  refine lv_iconst (v := 0) hx hb dX10_combineHalf_2 (by decide) ?_
  have hPc : va_P D vwCl (wX10_demandOperand cI cB a_wo a_ins a_mc a_me a_ps a_by a_ks a_rg v_op v_i v_r v_s v_a v_b v_fault v_word v_kF) H := hP.sub [0, 1, 2, 3, 4, 6] rfl
  have hDc : va_D A (wX10_demandOperand cI cB a_wo a_ins a_mc a_me a_ps a_by a_ks a_rg v_op v_i v_r v_s v_a v_b v_fault v_word v_kF) := hD.sub [0, 1, 2, 3, 4, 6] (by decide) rfl
  have hFc := va_free (wc := (wX10_demandOperand cI cB a_wo a_ins a_mc a_me a_ps a_by a_ks a_rg v_op v_i v_r v_s v_a v_b v_fault v_word v_kF)) hD hS hA [0, 1, 2, 3, 4, 6] rfl
  refine va_callv (va_runV (As := [.int 2, .int 0]) (rest := []) ⟨hx, hb, hml, hown, hts⟩ (kX10_demandOperand l D cI cB a_wo a_ins a_mc a_me a_ps a_by a_ks a_rg H.size v_op v_i v_r v_s v_a v_b v_fault v_word v_kF 2 0) (cwV 2 hts (gd_V wd_528 wd_529 wd_530 wd_495 wd_499) rfl rfl rfl hdX10_demandOperand ⟨Nat.le_of_ble_eq_true rfl, Nat.le_of_ble_eq_true rfl⟩) (preV_std (ci := 10) (q0 := 0) hPc hK hDc hNW rfl rfl) rfl rfl hl.1 rfl (lv_room (Nat.le_of_ble_eq_true rfl)) dX10_combineHalf_3 ⟨Nat.zero_le _, Nat.zero_le _⟩) hS (fun q _ h => hFc q h) hFc (fun u_3 t9 H1 locs ht9 hvm9 hw9 hB9 hz9 hk9 hS => ?_)
  have eu_3 : u_3 = fX10_demandOperand 2 0 v_a v_fault v_word v_kF := hw9
  obtain ⟨hP, hD⟩ := back_std (w1 := (wX10_demandOperand cI cB a_wo a_ins a_mc a_me a_ps a_by a_ks a_rg v_op v_i v_r v_s v_a v_b u_3 v_word v_kF)) (w2 := (wX10_combineHalf cI cB a_wo a_ins a_mc a_me a_ps a_by a_ks a_rg v_op v_i v_r v_s v_a v_b u_3 v_word v_bF v_kF v_rF)) (wr := [(a_by, .inl (cB, 8192, .inl v_bF)), (a_rg, .inl (cI, 16, .inl v_rF))]) hP hD [0, 1, 2, 3, 4, 6] [5, 7] [2, 3, 4, 5, 6, 0, 7, 1] rfl rfl (by decide) (by decide) hk9 hFc hB9 ht9 (by decide) rfl
  clear hB9 hk9 hz9 hvm9 ht9 hFc hPc hDc
  generalize H1 = H at hP hS ⊢
  refine lv_aload_n hx hb dX10_combineHalf_6 rfl (lv_at hl 0 rfl) ?_
  refine va_get (D := D) (ci := 10) (v := .ref a_mc) (C := RX10) (T := TX10) (N := 2) hx hb hts in_X10 hown hK hP 0 rfl rfl 0 (by decide) q_0 (fun _ h9 => h9) rfl dX10_combineHalf_7 ?_
  have hPc : va_P D vwCl (wX5_fine cI cB a_mc a_me a_ps a_rg u_3) H := hP.sub [2] rfl
  have hDc : va_D A (wX5_fine cI cB a_mc a_me a_ps a_rg u_3) := hD.sub [2] (by decide) rfl
  have hFc := va_free (wc := (wX5_fine cI cB a_mc a_me a_ps a_rg u_3)) hD hS hA [2] rfl
  refine va_calli (va_runV (As := []) (rest := []) ⟨hx, hb, hml, hown, hts⟩ (kX5_fine l D cI cB a_mc a_me a_ps a_rg H.size u_3 ) (cwV 0 hts (gd_V wd_503 wd_73 wd_74 wd_24 wd_66) rfl rfl rfl hdX5_fine ⟨Nat.le_of_ble_eq_true rfl, Nat.le_of_ble_eq_true rfl⟩) (preV_std (ci := 5) (q0 := 0) hPc hK hDc hNW rfl rfl) rfl rfl hl.1 rfl (lv_room (Nat.le_of_ble_eq_true rfl)) dX10_combineHalf_10 ⟨Nat.zero_le _, Nat.zero_le _⟩) hS (fun q _ h => hFc q h) hFc (fun r_10 u_10 t9 H1 locs ht9 hvm9 hw9 hB9 hz9 hk9 hS => ?_)
  have er_10 : r_10 = fX5_fine u_3 := hw9
  have zr_10 : r_10 = 0 ∨ r_10 = 1 := by rw [er_10]; exact zX5_fine _
  obtain ⟨hP, hD⟩ := back_std (w1 := (wX5_fine cI cB a_mc a_me a_ps a_rg u_3)) (w2 := (wX10_combineHalf cI cB a_wo a_ins a_mc a_me a_ps a_by a_ks a_rg v_op v_i v_r v_s v_a v_b u_3 v_word v_bF v_kF v_rF)) (wr := [(a_wo, .inr (10, [.ref a_mc, .ref a_ins])), (a_ins, .inr (4, [.ref a_mc, .ref a_me, .int v_op, .int v_i, .int v_r, .int v_s, .int v_a, .int v_b])), (a_me, .inr (6, [.ref a_by, .ref a_ks])), (a_ps, .inr (7, [.long v_word])), (a_by, .inl (cB, 8192, .inl v_bF)), (a_ks, .inl (cI, 4, .inl v_kF)), (a_rg, .inl (cI, 16, .inl v_rF))]) hP hD [2] [0, 1, 3, 4, 5, 6, 7] [0, 1, 7, 2, 3, 4, 5, 6] rfl rfl (by decide) (by decide) hk9 hFc hB9 ht9 (by decide) rfl
  clear hB9 hk9 hz9 hvm9 ht9 hFc hPc hDc
  generalize H1 = H at hP hS ⊢
  refine lv_if_eq (tgt := 37) hx hb dX10_combineHalf_13 (by decide) (fun c_13 => ?_) (fun c_13 => ?_)
  · skip
    have hf9 : (u_3, v_word, v_rF) = fX10_combineHalf v_op v_r v_a v_fault v_word v_bF v_kF v_rF := by simp only [fX10_combineHalf, ← eu_3, ← er_10, if_pos c_13]
    exact W.vret hx hb hr (fun t9 ht9 hW9 => ⟨⟨(u_3, v_word, v_rF), rfl, hf9, ⟨by rw [ht9]; exact hP, va_K.moved hW9.alike hK, hD⟩⟩, hS.F ht9⟩) hS.2.2 dX10_combineHalf_37
  · skip
    refine lv_aload_n hx hb dX10_combineHalf_16 rfl (lv_at hl 0 rfl) ?_
    refine lv_aload_n hx hb dX10_combineHalf_17 rfl (lv_at hl 0 rfl) ?_
    refine va_get (D := D) (ci := 10) (v := .ref a_mc) (C := RX10) (T := TX10) (N := 2) hx hb hts in_X10 hown hK hP 0 rfl rfl 0 (by decide) q_0 (fun _ h9 => h9) rfl dX10_combineHalf_18 ?_
    refine va_getN (D := D) (ci := 5) (v := .ref a_me) (C := RX5) (T := TX5) (N := 4) hx hb hts in_X5 hown hK hP 2 rfl rfl 0 (by decide) n_0 (fun _ h9 => h9) rfl dX10_combineHalf_21 ?_
    refine lv_aload_n hx hb dX10_combineHalf_24 rfl (lv_at hl 0 rfl) ?_
    refine va_get (D := D) (ci := 10) (v := .ref a_ins) (C := RX10) (T := TX10) (N := 2) hx hb hts in_X10 hown hK hP 0 rfl rfl 1 (by decide) q_1 (fun _ h9 => h9) rfl dX10_combineHalf_25 ?_
    refine va_getN (D := D) (ci := 4) (v := .int v_a) (C := RX4) (T := TX4) (N := 8) hx hb hts in_X4 hown hK hP 1 rfl rfl 6 (by decide) n_1 (fun _ h9 => h9) rfl dX10_combineHalf_28 ?_
    have hPc : va_P D vwCl (wX6_half cI cB a_me a_by a_ks v_bF) H := hP.sub [3, 5] rfl
    have hDc : va_D A (wX6_half cI cB a_me a_by a_ks v_bF) := hD.sub [3, 5] (by decide) rfl
    have hFc := va_free (wc := (wX6_half cI cB a_me a_by a_ks v_bF)) hD hS hA [3, 5] rfl
    refine va_calli (va_runV (As := [.int v_a]) (rest := [.ref a_wo]) ⟨hx, hb, hml, hown, hts⟩ (kX6_half l D cI cB a_me a_by a_ks H.size v_bF v_a) (cwV 1 hts (gd_V wd_538 wd_340 wd_341 wd_78 wd_334) rfl rfl rfl hdX6_half ⟨Nat.le_of_ble_eq_true rfl, Nat.le_of_ble_eq_true rfl⟩) (preV_std (ci := 6) (q0 := 0) hPc hK hDc hNW rfl rfl) rfl rfl hl.1 rfl (lv_room (Nat.le_of_ble_eq_true rfl)) dX10_combineHalf_31 ⟨Nat.zero_le _, Nat.zero_le _⟩) hS (fun q _ h => hFc q h) hFc (fun r_31 u_31 t9 H1 locs ht9 hvm9 hw9 hB9 hz9 hk9 hS => ?_)
    have er_31 : r_31 = fX6_half v_a v_bF := hw9
    obtain ⟨hP, hD⟩ := back_std (w1 := (wX6_half cI cB a_me a_by a_ks v_bF)) (w2 := (wX10_combineHalf cI cB a_wo a_ins a_mc a_me a_ps a_by a_ks a_rg v_op v_i v_r v_s v_a v_b u_3 v_word v_bF v_kF v_rF)) (wr := [(a_wo, .inr (10, [.ref a_mc, .ref a_ins])), (a_ins, .inr (4, [.ref a_mc, .ref a_me, .int v_op, .int v_i, .int v_r, .int v_s, .int v_a, .int v_b])), (a_mc, .inr (5, [.ref a_me, .ref a_ps, .ref a_rg, .int u_3])), (a_ps, .inr (7, [.long v_word])), (a_ks, .inl (cI, 4, .inl v_kF)), (a_rg, .inl (cI, 16, .inl v_rF))]) hP hD [3, 5] [0, 1, 2, 4, 6, 7] [0, 1, 2, 6, 3, 7, 4, 5] rfl rfl (by decide) (by decide) hk9 hFc hB9 ht9 (by decide) rfl
    clear hB9 hk9 hz9 hvm9 ht9 hFc hPc hDc
    generalize H1 = H at hP hS ⊢
    have hPc : va_P D vwCl (wX10_combine cI cB a_wo a_ins a_mc a_me a_ps a_rg v_op v_i v_r v_s v_a v_b u_3 v_word v_rF) H := hP.sub [0, 1, 2, 4, 7] rfl
    have hDc : va_D A (wX10_combine cI cB a_wo a_ins a_mc a_me a_ps a_rg v_op v_i v_r v_s v_a v_b u_3 v_word v_rF) := hD.sub [0, 1, 2, 4, 7] (by decide) rfl
    have hFc := va_free (wc := (wX10_combine cI cB a_wo a_ins a_mc a_me a_ps a_rg v_op v_i v_r v_s v_a v_b u_3 v_word v_rF)) hD hS hA [0, 1, 2, 4, 7] rfl
    refine va_callv (va_runV (As := [.int r_31]) (rest := []) ⟨hx, hb, hml, hown, hts⟩ (kX10_combine l D cI cB a_wo a_ins a_mc a_me a_ps a_rg H.size v_op v_i v_r v_s v_a v_b u_3 v_word v_rF r_31) (cwV 1 hts (gd_V wd_534 wd_535 wd_536 wd_495 wd_527) rfl rfl rfl hdX10_combine ⟨Nat.le_of_ble_eq_true rfl, Nat.le_of_ble_eq_true rfl⟩) (preV_std (ci := 10) (q0 := 0) hPc hK hDc hNW rfl rfl) rfl rfl hl.1 rfl (lv_room (Nat.le_of_ble_eq_true rfl)) dX10_combineHalf_34 ⟨Nat.zero_le _, Nat.zero_le _⟩) hS (fun q _ h => hFc q h) hFc (fun u_34 t9 H1 locs ht9 hvm9 hw9 hB9 hz9 hk9 hS => ?_)
    have eu_34 : u_34 = fX10_combine r_31 v_op v_r u_3 v_word v_rF := hw9
    obtain ⟨hP, hD⟩ := back_std (w1 := (wX10_combine cI cB a_wo a_ins a_mc a_me a_ps a_rg v_op v_i v_r v_s v_a v_b u_34.1 u_34.2.1 u_34.2.2)) (w2 := (wX10_combineHalf cI cB a_wo a_ins a_mc a_me a_ps a_by a_ks a_rg v_op v_i v_r v_s v_a v_b u_34.1 u_34.2.1 v_bF v_kF u_34.2.2)) (wr := [(a_me, .inr (6, [.ref a_by, .ref a_ks])), (a_by, .inl (cB, 8192, .inl v_bF)), (a_ks, .inl (cI, 4, .inl v_kF))]) hP hD [0, 1, 2, 4, 7] [3, 5, 6] [3, 4, 5, 0, 6, 1, 2, 7] rfl rfl (by decide) (by decide) hk9 hFc hB9 ht9 (by decide) rfl
    clear hB9 hk9 hz9 hvm9 ht9 hFc hPc hDc
    generalize H1 = H at hP hS ⊢
    have hf9 : (u_34.1, u_34.2.1, u_34.2.2) = fX10_combineHalf v_op v_r v_a v_fault v_word v_bF v_kF v_rF := by simp only [fX10_combineHalf, ← eu_3, ← er_10, ← er_31, ← eu_34, if_neg c_13]
    exact W.vret hx hb hr (fun t9 ht9 hW9 => ⟨⟨(u_34.1, u_34.2.1, u_34.2.2), rfl, hf9, ⟨by rw [ht9]; exact hP, va_K.moved hW9.alike hK, hD⟩⟩, hS.F ht9⟩) hS.2.2 dX10_combineHalf_37
theorem hdX10_combineHalf : yX10_combineHalf.cls = RX10 ∧ yX10_combineHalf.cls ≠ "java/lang/invoke/MethodHandle" ∧ yX10_combineHalf.cls ≠ "java/lang/invoke/VarHandle" ∧ (parseMethodDescriptor yX10_combineHalf.desc).map (fun d => d.parameters.length) = some 0 := by decide +kernel
noncomputable def fX10_multiplyHalf (v_r : Int32) (v_a : Int32) (v_fault : Int32) (v_word : Int64) (v_bF : (Nat → Int32)) (v_kF : (Nat → Int32)) (v_rF : (Nat → Int32)) : (Int32 × (Nat → Int32)) :=
  let u_3 := fX10_demandOperand 2 0 v_a v_fault v_word v_kF
  let r_10 := fX5_fine u_3
  if r_10 = 0 then ((u_3, v_rF)) else (let r_30 := fX6_half v_a v_bF; let r_56 := fX5_reg v_r v_rF; let u_61 := fX5_setReg v_r (r_56 * r_30) v_rF; (u_3, u_61))
abbrev wX10_multiplyHalf (cI cB : ClassId) (a_wo a_ins a_mc a_me a_ps a_by a_ks a_rg : Nat) (v_op : Int32) (v_i : Int32) (v_r : Int32) (v_s : Int32) (v_a : Int32) (v_b : Int32) (v_fault : Int32) (v_word : Int64) (v_bF : (Nat → Int32)) (v_kF : (Nat → Int32)) (v_rF : (Nat → Int32)) : va_W := [(a_wo, .inr (10, [.ref a_mc, .ref a_ins])), (a_ins, .inr (4, [.ref a_mc, .ref a_me, .int v_op, .int v_i, .int v_r, .int v_s, .int v_a, .int v_b])), (a_mc, .inr (5, [.ref a_me, .ref a_ps, .ref a_rg, .int v_fault])), (a_me, .inr (6, [.ref a_by, .ref a_ks])), (a_ps, .inr (7, [.long v_word])), (a_by, .inl (cB, 8192, .inl v_bF)), (a_ks, .inl (cI, 4, .inl v_kF)), (a_rg, .inl (cI, 16, .inl v_rF))]
abbrev rmX10_multiplyHalf : Room := { frames := 3, cells := 0, slots := 0, locals := 71 }
abbrev qX10_multiplyHalf (D : va_G) (cI cB : ClassId) (a_wo a_ins a_mc a_me a_ps a_by a_ks a_rg : Nat) (v_op : Int32) (v_i : Int32) (v_r : Int32) (v_s : Int32) (v_a : Int32) (v_b : Int32) (v_fault : Int32) (v_word : Int64) (v_bF : (Nat → Int32)) (v_kF : (Nat → Int32)) (v_rF : (Nat → Int32)) : (Nat → Prop) → Array Value → State → Outcome → State → Prop := fun A9 => va_Qv (fun (u9 : (Int32 × (Nat → Int32))) => u9 = fX10_multiplyHalf v_r v_a v_fault v_word v_bF v_kF v_rF) (fun u9 t9 => atW D (TYS cI cB) A9 (wX10_multiplyHalf cI cB a_wo a_ins a_mc a_me a_ps a_by a_ks a_rg v_op v_i v_r v_s v_a v_b u9.1 v_word v_bF v_kF u9.2) t9) A9
set_option maxHeartbeats 4000000 in
set_option maxRecDepth 100000 in
theorem kX10_multiplyHalf (l : Launch) (D : va_G) (cI cB : ClassId) (a_wo a_ins a_mc a_me a_ps a_by a_ks a_rg : Nat) (sz : Nat) (v_op : Int32) (v_i : Int32) (v_r : Int32) (v_s : Int32) (v_a : Int32) (v_b : Int32) (v_fault : Int32) (v_word : Int64) (v_bF : (Nat → Int32)) (v_kF : (Nat → Int32)) (v_rF : (Nat → Int32)) : MetW l yX10_multiplyHalf (WK yX10_multiplyHalf cX10_multiplyHalf 2 none) rmX10_multiplyHalf D (TYS cI cB) (wX10_multiplyHalf cI cB a_wo a_ins a_mc a_me a_ps a_by a_ks a_rg v_op v_i v_r v_s v_a v_b v_fault v_word v_bF v_kF v_rF) sz [.ref a_wo] (qX10_multiplyHalf D cI cB a_wo a_ins a_mc a_me a_ps a_by a_ks a_rg v_op v_i v_r v_s v_a v_b v_fault v_word v_bF v_kF v_rF) 0 0 := by
  refine met_std (by decide) rfl (Nat.le_of_ble_eq_true rfl) ?_
  intro p e s m below meth c A ls H hx hb hr hml hown hts hlocks hA hP hK hD hS hNW hl
  have hl : lv_has ls 2 [(0, .ref a_wo)] := hl
  have q_0 := hts _ (List.mem_cons_of_mem _ wd_485)
  have q_1 := hts _ (List.mem_cons_of_mem _ wd_486)
  have n_0 := hNW.f (A := ([.ref a_wo] : List Value).toArray) ("MainframeCore$Words", 45, "MainframeCore$Machine", "memory", "LMainframeCore$Memory;", "MainframeCore") (by decide +kernel)
  have n_1 := hNW.f (A := ([.ref a_wo] : List Value).toArray) ("MainframeCore$Words", 49, "MainframeCore$Instruction", "a", "I", "MainframeCore") (by decide +kernel)
  have n_2 := hNW.f (A := ([.ref a_wo] : List Value).toArray) ("MainframeCore$Words", 65, "MainframeCore$Instruction", "\x72", "I", "MainframeCore") (by decide +kernel)
  refine lv_aload_n hx hb dX10_multiplyHalf_0 rfl (lv_at hl 0 rfl) ?_
  refine lv_iconst (v := 2) hx hb dX10_multiplyHalf_1 (by decide) ?_
  refine lv_iconst (v := 0) hx hb dX10_multiplyHalf_2 (by decide) ?_
  have hPc : va_P D vwCl (wX10_demandOperand cI cB a_wo a_ins a_mc a_me a_ps a_by a_ks a_rg v_op v_i v_r v_s v_a v_b v_fault v_word v_kF) H := hP.sub [0, 1, 2, 3, 4, 6] rfl
  have hDc : va_D A (wX10_demandOperand cI cB a_wo a_ins a_mc a_me a_ps a_by a_ks a_rg v_op v_i v_r v_s v_a v_b v_fault v_word v_kF) := hD.sub [0, 1, 2, 3, 4, 6] (by decide) rfl
  have hFc := va_free (wc := (wX10_demandOperand cI cB a_wo a_ins a_mc a_me a_ps a_by a_ks a_rg v_op v_i v_r v_s v_a v_b v_fault v_word v_kF)) hD hS hA [0, 1, 2, 3, 4, 6] rfl
  refine va_callv (va_runV (As := [.int 2, .int 0]) (rest := []) ⟨hx, hb, hml, hown, hts⟩ (kX10_demandOperand l D cI cB a_wo a_ins a_mc a_me a_ps a_by a_ks a_rg H.size v_op v_i v_r v_s v_a v_b v_fault v_word v_kF 2 0) (cwV 2 hts (gd_V wd_528 wd_529 wd_530 wd_495 wd_499) rfl rfl rfl hdX10_demandOperand ⟨Nat.le_of_ble_eq_true rfl, Nat.le_of_ble_eq_true rfl⟩) (preV_std (ci := 10) (q0 := 0) hPc hK hDc hNW rfl rfl) rfl rfl hl.1 rfl (lv_room (Nat.le_of_ble_eq_true rfl)) dX10_multiplyHalf_3 ⟨Nat.zero_le _, Nat.zero_le _⟩) hS (fun q _ h => hFc q h) hFc (fun u_3 t9 H1 locs ht9 hvm9 hw9 hB9 hz9 hk9 hS => ?_)
  have eu_3 : u_3 = fX10_demandOperand 2 0 v_a v_fault v_word v_kF := hw9
  obtain ⟨hP, hD⟩ := back_std (w1 := (wX10_demandOperand cI cB a_wo a_ins a_mc a_me a_ps a_by a_ks a_rg v_op v_i v_r v_s v_a v_b u_3 v_word v_kF)) (w2 := (wX10_multiplyHalf cI cB a_wo a_ins a_mc a_me a_ps a_by a_ks a_rg v_op v_i v_r v_s v_a v_b u_3 v_word v_bF v_kF v_rF)) (wr := [(a_by, .inl (cB, 8192, .inl v_bF)), (a_rg, .inl (cI, 16, .inl v_rF))]) hP hD [0, 1, 2, 3, 4, 6] [5, 7] [2, 3, 4, 5, 6, 0, 7, 1] rfl rfl (by decide) (by decide) hk9 hFc hB9 ht9 (by decide) rfl
  clear hB9 hk9 hz9 hvm9 ht9 hFc hPc hDc
  generalize H1 = H at hP hS ⊢
  refine lv_aload_n hx hb dX10_multiplyHalf_6 rfl (lv_at hl 0 rfl) ?_
  refine va_get (D := D) (ci := 10) (v := .ref a_mc) (C := RX10) (T := TX10) (N := 2) hx hb hts in_X10 hown hK hP 0 rfl rfl 0 (by decide) q_0 (fun _ h9 => h9) rfl dX10_multiplyHalf_7 ?_
  have hPc : va_P D vwCl (wX5_fine cI cB a_mc a_me a_ps a_rg u_3) H := hP.sub [2] rfl
  have hDc : va_D A (wX5_fine cI cB a_mc a_me a_ps a_rg u_3) := hD.sub [2] (by decide) rfl
  have hFc := va_free (wc := (wX5_fine cI cB a_mc a_me a_ps a_rg u_3)) hD hS hA [2] rfl
  refine va_calli (va_runV (As := []) (rest := []) ⟨hx, hb, hml, hown, hts⟩ (kX5_fine l D cI cB a_mc a_me a_ps a_rg H.size u_3 ) (cwV 0 hts (gd_V wd_503 wd_73 wd_74 wd_24 wd_66) rfl rfl rfl hdX5_fine ⟨Nat.le_of_ble_eq_true rfl, Nat.le_of_ble_eq_true rfl⟩) (preV_std (ci := 5) (q0 := 0) hPc hK hDc hNW rfl rfl) rfl rfl hl.1 rfl (lv_room (Nat.le_of_ble_eq_true rfl)) dX10_multiplyHalf_10 ⟨Nat.zero_le _, Nat.zero_le _⟩) hS (fun q _ h => hFc q h) hFc (fun r_10 u_10 t9 H1 locs ht9 hvm9 hw9 hB9 hz9 hk9 hS => ?_)
  have er_10 : r_10 = fX5_fine u_3 := hw9
  have zr_10 : r_10 = 0 ∨ r_10 = 1 := by rw [er_10]; exact zX5_fine _
  obtain ⟨hP, hD⟩ := back_std (w1 := (wX5_fine cI cB a_mc a_me a_ps a_rg u_3)) (w2 := (wX10_multiplyHalf cI cB a_wo a_ins a_mc a_me a_ps a_by a_ks a_rg v_op v_i v_r v_s v_a v_b u_3 v_word v_bF v_kF v_rF)) (wr := [(a_wo, .inr (10, [.ref a_mc, .ref a_ins])), (a_ins, .inr (4, [.ref a_mc, .ref a_me, .int v_op, .int v_i, .int v_r, .int v_s, .int v_a, .int v_b])), (a_me, .inr (6, [.ref a_by, .ref a_ks])), (a_ps, .inr (7, [.long v_word])), (a_by, .inl (cB, 8192, .inl v_bF)), (a_ks, .inl (cI, 4, .inl v_kF)), (a_rg, .inl (cI, 16, .inl v_rF))]) hP hD [2] [0, 1, 3, 4, 5, 6, 7] [0, 1, 7, 2, 3, 4, 5, 6] rfl rfl (by decide) (by decide) hk9 hFc hB9 ht9 (by decide) rfl
  clear hB9 hk9 hz9 hvm9 ht9 hFc hPc hDc
  generalize H1 = H at hP hS ⊢
  refine lv_if_eq (tgt := 64) hx hb dX10_multiplyHalf_13 (by decide) (fun c_13 => ?_) (fun c_13 => ?_)
  · skip
    have hf9 : (u_3, v_rF) = fX10_multiplyHalf v_r v_a v_fault v_word v_bF v_kF v_rF := by simp only [fX10_multiplyHalf, ← eu_3, ← er_10, if_pos c_13]
    exact W.vret hx hb hr (fun t9 ht9 hW9 => ⟨⟨(u_3, v_rF), rfl, hf9, ⟨by rw [ht9]; exact hP, va_K.moved hW9.alike hK, hD⟩⟩, hS.F ht9⟩) hS.2.2 dX10_multiplyHalf_64
  · skip
    refine lv_aload_n hx hb dX10_multiplyHalf_16 rfl (lv_at hl 0 rfl) ?_
    refine va_get (D := D) (ci := 10) (v := .ref a_mc) (C := RX10) (T := TX10) (N := 2) hx hb hts in_X10 hown hK hP 0 rfl rfl 0 (by decide) q_0 (fun _ h9 => h9) rfl dX10_multiplyHalf_17 ?_
    refine va_getN (D := D) (ci := 5) (v := .ref a_me) (C := RX5) (T := TX5) (N := 4) hx hb hts in_X5 hown hK hP 2 rfl rfl 0 (by decide) n_0 (fun _ h9 => h9) rfl dX10_multiplyHalf_20 ?_
    refine lv_aload_n hx hb dX10_multiplyHalf_23 rfl (lv_at hl 0 rfl) ?_
    refine va_get (D := D) (ci := 10) (v := .ref a_ins) (C := RX10) (T := TX10) (N := 2) hx hb hts in_X10 hown hK hP 0 rfl rfl 1 (by decide) q_1 (fun _ h9 => h9) rfl dX10_multiplyHalf_24 ?_
    refine va_getN (D := D) (ci := 4) (v := .int v_a) (C := RX4) (T := TX4) (N := 8) hx hb hts in_X4 hown hK hP 1 rfl rfl 6 (by decide) n_1 (fun _ h9 => h9) rfl dX10_multiplyHalf_27 ?_
    have hPc : va_P D vwCl (wX6_half cI cB a_me a_by a_ks v_bF) H := hP.sub [3, 5] rfl
    have hDc : va_D A (wX6_half cI cB a_me a_by a_ks v_bF) := hD.sub [3, 5] (by decide) rfl
    have hFc := va_free (wc := (wX6_half cI cB a_me a_by a_ks v_bF)) hD hS hA [3, 5] rfl
    refine va_calli (va_runV (As := [.int v_a]) (rest := []) ⟨hx, hb, hml, hown, hts⟩ (kX6_half l D cI cB a_me a_by a_ks H.size v_bF v_a) (cwV 1 hts (gd_V wd_538 wd_340 wd_341 wd_78 wd_334) rfl rfl rfl hdX6_half ⟨Nat.le_of_ble_eq_true rfl, Nat.le_of_ble_eq_true rfl⟩) (preV_std (ci := 6) (q0 := 0) hPc hK hDc hNW rfl rfl) rfl rfl hl.1 rfl (lv_room (Nat.le_of_ble_eq_true rfl)) dX10_multiplyHalf_30 ⟨Nat.zero_le _, Nat.zero_le _⟩) hS (fun q _ h => hFc q h) hFc (fun r_30 u_30 t9 H1 locs ht9 hvm9 hw9 hB9 hz9 hk9 hS => ?_)
    have er_30 : r_30 = fX6_half v_a v_bF := hw9
    obtain ⟨hP, hD⟩ := back_std (w1 := (wX6_half cI cB a_me a_by a_ks v_bF)) (w2 := (wX10_multiplyHalf cI cB a_wo a_ins a_mc a_me a_ps a_by a_ks a_rg v_op v_i v_r v_s v_a v_b u_3 v_word v_bF v_kF v_rF)) (wr := [(a_wo, .inr (10, [.ref a_mc, .ref a_ins])), (a_ins, .inr (4, [.ref a_mc, .ref a_me, .int v_op, .int v_i, .int v_r, .int v_s, .int v_a, .int v_b])), (a_mc, .inr (5, [.ref a_me, .ref a_ps, .ref a_rg, .int u_3])), (a_ps, .inr (7, [.long v_word])), (a_ks, .inl (cI, 4, .inl v_kF)), (a_rg, .inl (cI, 16, .inl v_rF))]) hP hD [3, 5] [0, 1, 2, 4, 6, 7] [0, 1, 2, 6, 3, 7, 4, 5] rfl rfl (by decide) (by decide) hk9 hFc hB9 ht9 (by decide) rfl
    clear hB9 hk9 hz9 hvm9 ht9 hFc hPc hDc
    generalize H1 = H at hP hS ⊢
    refine lv_istore_n (lv' := [(1, .int r_30), (0, .ref a_wo)]) hx hb dX10_multiplyHalf_33 rfl hl (by decide) rfl (fun ls hl => ?_)
    refine lv_aload_n hx hb dX10_multiplyHalf_34 rfl (lv_at hl 1 rfl) ?_
    refine va_get (D := D) (ci := 10) (v := .ref a_mc) (C := RX10) (T := TX10) (N := 2) hx hb hts in_X10 hown hK hP 0 rfl rfl 0 (by decide) q_0 (fun _ h9 => h9) rfl dX10_multiplyHalf_35 ?_
    refine lv_aload_n hx hb dX10_multiplyHalf_38 rfl (lv_at hl 1 rfl) ?_
    refine va_get (D := D) (ci := 10) (v := .ref a_ins) (C := RX10) (T := TX10) (N := 2) hx hb hts in_X10 hown hK hP 0 rfl rfl 1 (by decide) q_1 (fun _ h9 => h9) rfl dX10_multiplyHalf_39 ?_
    refine va_getN (D := D) (ci := 4) (v := .int v_r) (C := RX4) (T := TX4) (N := 8) hx hb hts in_X4 hown hK hP 1 rfl rfl 4 (by decide) n_2 (fun _ h9 => h9) rfl dX10_multiplyHalf_42 ?_
    refine lv_aload_n hx hb dX10_multiplyHalf_45 rfl (lv_at hl 1 rfl) ?_
    refine va_get (D := D) (ci := 10) (v := .ref a_mc) (C := RX10) (T := TX10) (N := 2) hx hb hts in_X10 hown hK hP 0 rfl rfl 0 (by decide) q_0 (fun _ h9 => h9) rfl dX10_multiplyHalf_46 ?_
    refine lv_aload_n hx hb dX10_multiplyHalf_49 rfl (lv_at hl 1 rfl) ?_
    refine va_get (D := D) (ci := 10) (v := .ref a_ins) (C := RX10) (T := TX10) (N := 2) hx hb hts in_X10 hown hK hP 0 rfl rfl 1 (by decide) q_1 (fun _ h9 => h9) rfl dX10_multiplyHalf_50 ?_
    refine va_getN (D := D) (ci := 4) (v := .int v_r) (C := RX4) (T := TX4) (N := 8) hx hb hts in_X4 hown hK hP 1 rfl rfl 4 (by decide) n_2 (fun _ h9 => h9) rfl dX10_multiplyHalf_53 ?_
    have hPc : va_P D vwCl (wX5_reg cI cB a_mc a_me a_ps a_rg u_3 v_rF) H := hP.sub [2, 7] rfl
    have hDc : va_D A (wX5_reg cI cB a_mc a_me a_ps a_rg u_3 v_rF) := hD.sub [2, 7] (by decide) rfl
    have hFc := va_free (wc := (wX5_reg cI cB a_mc a_me a_ps a_rg u_3 v_rF)) hD hS hA [2, 7] rfl
    refine va_calli (va_runV (As := [.int v_r]) (rest := [.int v_r, .ref a_mc]) ⟨hx, hb, hml, hown, hts⟩ (kX5_reg l D cI cB a_mc a_me a_ps a_rg H.size u_3 v_rF v_r) (cwV 1 hts (gd_V wd_504 wd_31 wd_32 wd_24 wd_29) rfl rfl rfl hdX5_reg ⟨Nat.le_of_ble_eq_true rfl, Nat.le_of_ble_eq_true rfl⟩) (preV_std (ci := 5) (q0 := 0) hPc hK hDc hNW rfl rfl) rfl rfl hl.1 rfl (lv_room (Nat.le_of_ble_eq_true rfl)) dX10_multiplyHalf_56 ⟨Nat.zero_le _, Nat.zero_le _⟩) hS (fun q _ h => hFc q h) hFc (fun r_56 u_56 t9 H1 locs ht9 hvm9 hw9 hB9 hz9 hk9 hS => ?_)
    have er_56 : r_56 = fX5_reg v_r v_rF := hw9
    obtain ⟨hP, hD⟩ := back_std (w1 := (wX5_reg cI cB a_mc a_me a_ps a_rg u_3 v_rF)) (w2 := (wX10_multiplyHalf cI cB a_wo a_ins a_mc a_me a_ps a_by a_ks a_rg v_op v_i v_r v_s v_a v_b u_3 v_word v_bF v_kF v_rF)) (wr := [(a_wo, .inr (10, [.ref a_mc, .ref a_ins])), (a_ins, .inr (4, [.ref a_mc, .ref a_me, .int v_op, .int v_i, .int v_r, .int v_s, .int v_a, .int v_b])), (a_me, .inr (6, [.ref a_by, .ref a_ks])), (a_ps, .inr (7, [.long v_word])), (a_by, .inl (cB, 8192, .inl v_bF)), (a_ks, .inl (cI, 4, .inl v_kF))]) hP hD [2, 7] [0, 1, 3, 4, 5, 6] [0, 1, 6, 2, 3, 4, 5, 7] rfl rfl (by decide) (by decide) hk9 hFc hB9 ht9 (by decide) rfl
    clear hB9 hk9 hz9 hvm9 ht9 hFc hPc hDc
    generalize H1 = H at hP hS ⊢
    refine lv_iload_n hx hb dX10_multiplyHalf_59 rfl (lv_at hl 0 rfl) ?_
    refine lv_imul hx hb dX10_multiplyHalf_60 ?_
    have hPc : va_P D vwCl (wX5_setReg cI cB a_mc a_me a_ps a_rg u_3 v_rF) H := hP.sub [2, 7] rfl
    have hDc : va_D A (wX5_setReg cI cB a_mc a_me a_ps a_rg u_3 v_rF) := hD.sub [2, 7] (by decide) rfl
    have hFc := va_free (wc := (wX5_setReg cI cB a_mc a_me a_ps a_rg u_3 v_rF)) hD hS hA [2, 7] rfl
    refine va_callv (va_runV (As := [.int v_r, .int (r_56 * r_30)]) (rest := []) ⟨hx, hb, hml, hown, hts⟩ (kX5_setReg l D cI cB a_mc a_me a_ps a_rg H.size u_3 v_rF v_r (r_56 * r_30)) (cwV 2 hts (gd_V wd_487 wd_22 wd_23 wd_24 wd_6) rfl rfl rfl hdX5_setReg ⟨Nat.le_of_ble_eq_true rfl, Nat.le_of_ble_eq_true rfl⟩) (preV_std (ci := 5) (q0 := 0) hPc hK hDc hNW rfl rfl) rfl rfl hl.1 rfl (lv_room (Nat.le_of_ble_eq_true rfl)) dX10_multiplyHalf_61 ⟨Nat.zero_le _, Nat.zero_le _⟩) hS (fun q _ h => hFc q h) hFc (fun u_61 t9 H1 locs ht9 hvm9 hw9 hB9 hz9 hk9 hS => ?_)
    have eu_61 : u_61 = fX5_setReg v_r (r_56 * r_30) v_rF := hw9
    obtain ⟨hP, hD⟩ := back_std (w1 := (wX5_setReg cI cB a_mc a_me a_ps a_rg u_3 u_61)) (w2 := (wX10_multiplyHalf cI cB a_wo a_ins a_mc a_me a_ps a_by a_ks a_rg v_op v_i v_r v_s v_a v_b u_3 v_word v_bF v_kF u_61)) (wr := [(a_wo, .inr (10, [.ref a_mc, .ref a_ins])), (a_ins, .inr (4, [.ref a_mc, .ref a_me, .int v_op, .int v_i, .int v_r, .int v_s, .int v_a, .int v_b])), (a_me, .inr (6, [.ref a_by, .ref a_ks])), (a_ps, .inr (7, [.long v_word])), (a_by, .inl (cB, 8192, .inl v_bF)), (a_ks, .inl (cI, 4, .inl v_kF))]) hP hD [2, 7] [0, 1, 3, 4, 5, 6] [0, 1, 6, 2, 3, 4, 5, 7] rfl rfl (by decide) (by decide) hk9 hFc hB9 ht9 (by decide) rfl
    clear hB9 hk9 hz9 hvm9 ht9 hFc hPc hDc
    generalize H1 = H at hP hS ⊢
    have hf9 : (u_3, u_61) = fX10_multiplyHalf v_r v_a v_fault v_word v_bF v_kF v_rF := by simp only [fX10_multiplyHalf, ← eu_3, ← er_10, ← er_30, ← er_56, ← eu_61, if_neg c_13]
    exact W.vret hx hb hr (fun t9 ht9 hW9 => ⟨⟨(u_3, u_61), rfl, hf9, ⟨by rw [ht9]; exact hP, va_K.moved hW9.alike hK, hD⟩⟩, hS.F ht9⟩) hS.2.2 dX10_multiplyHalf_64
theorem hdX10_multiplyHalf : yX10_multiplyHalf.cls = RX10 ∧ yX10_multiplyHalf.cls ≠ "java/lang/invoke/MethodHandle" ∧ yX10_multiplyHalf.cls ≠ "java/lang/invoke/VarHandle" ∧ (parseMethodDescriptor yX10_multiplyHalf.desc).map (fun d => d.parameters.length) = some 0 := by decide +kernel
noncomputable def fX10_store (x0 : Int32) (v_r : Int32) (v_a : Int32) (v_fault : Int32) (v_word : Int64) (v_bF : (Nat → Int32)) (v_kF : (Nat → Int32)) (v_rF : (Nat → Int32)) : (Int32 × (Nat → Int32)) :=
  let u_3 := fX10_demandOperand x0 1 v_a v_fault v_word v_kF
  let r_10 := fX5_fine u_3
  if r_10 = 0 then ((u_3, v_bF)) else (let r_41 := fX5_reg v_r v_rF; let u_46 := fX6_setNumber v_a ((r_41 : Int32).toInt64) x0 v_bF; (u_3, u_46))
abbrev wX10_store (cI cB : ClassId) (a_wo a_ins a_mc a_me a_ps a_by a_ks a_rg : Nat) (v_op : Int32) (v_i : Int32) (v_r : Int32) (v_s : Int32) (v_a : Int32) (v_b : Int32) (v_fault : Int32) (v_word : Int64) (v_bF : (Nat → Int32)) (v_kF : (Nat → Int32)) (v_rF : (Nat → Int32)) : va_W := [(a_wo, .inr (10, [.ref a_mc, .ref a_ins])), (a_ins, .inr (4, [.ref a_mc, .ref a_me, .int v_op, .int v_i, .int v_r, .int v_s, .int v_a, .int v_b])), (a_mc, .inr (5, [.ref a_me, .ref a_ps, .ref a_rg, .int v_fault])), (a_me, .inr (6, [.ref a_by, .ref a_ks])), (a_ps, .inr (7, [.long v_word])), (a_by, .inl (cB, 8192, .inl v_bF)), (a_ks, .inl (cI, 4, .inl v_kF)), (a_rg, .inl (cI, 16, .inl v_rF))]
abbrev rmX10_store : Room := { frames := 3, cells := 0, slots := 0, locals := 71 }
abbrev qX10_store (D : va_G) (cI cB : ClassId) (a_wo a_ins a_mc a_me a_ps a_by a_ks a_rg : Nat) (v_op : Int32) (v_i : Int32) (v_r : Int32) (v_s : Int32) (v_a : Int32) (v_b : Int32) (v_fault : Int32) (v_word : Int64) (v_bF : (Nat → Int32)) (v_kF : (Nat → Int32)) (v_rF : (Nat → Int32)) (x0 : Int32) : (Nat → Prop) → Array Value → State → Outcome → State → Prop := fun A9 => va_Qv (fun (u9 : (Int32 × (Nat → Int32))) => u9 = fX10_store x0 v_r v_a v_fault v_word v_bF v_kF v_rF) (fun u9 t9 => atW D (TYS cI cB) A9 (wX10_store cI cB a_wo a_ins a_mc a_me a_ps a_by a_ks a_rg v_op v_i v_r v_s v_a v_b u9.1 v_word u9.2 v_kF v_rF) t9) A9
set_option maxHeartbeats 4000000 in
set_option maxRecDepth 100000 in
theorem kX10_store (l : Launch) (D : va_G) (cI cB : ClassId) (a_wo a_ins a_mc a_me a_ps a_by a_ks a_rg : Nat) (sz : Nat) (v_op : Int32) (v_i : Int32) (v_r : Int32) (v_s : Int32) (v_a : Int32) (v_b : Int32) (v_fault : Int32) (v_word : Int64) (v_bF : (Nat → Int32)) (v_kF : (Nat → Int32)) (v_rF : (Nat → Int32)) (x0 : Int32) : MetW l yX10_store (WK yX10_store cX10_store 2 none) rmX10_store D (TYS cI cB) (wX10_store cI cB a_wo a_ins a_mc a_me a_ps a_by a_ks a_rg v_op v_i v_r v_s v_a v_b v_fault v_word v_bF v_kF v_rF) sz [.ref a_wo, .int x0] (qX10_store D cI cB a_wo a_ins a_mc a_me a_ps a_by a_ks a_rg v_op v_i v_r v_s v_a v_b v_fault v_word v_bF v_kF v_rF x0) 0 0 := by
  refine met_std (by decide) rfl (Nat.le_of_ble_eq_true rfl) ?_
  intro p e s m below meth c A ls H hx hb hr hml hown hts hlocks hA hP hK hD hS hNW hl
  have hl : lv_has ls 2 [(0, .ref a_wo), (1, .int x0)] := hl
  have q_0 := hts _ (List.mem_cons_of_mem _ wd_485)
  have q_1 := hts _ (List.mem_cons_of_mem _ wd_486)
  have n_0 := hNW.f (A := ([.ref a_wo, .int x0] : List Value).toArray) ("MainframeCore$Words", 45, "MainframeCore$Machine", "memory", "LMainframeCore$Memory;", "MainframeCore") (by decide +kernel)
  have n_1 := hNW.f (A := ([.ref a_wo, .int x0] : List Value).toArray) ("MainframeCore$Words", 49, "MainframeCore$Instruction", "a", "I", "MainframeCore") (by decide +kernel)
  have n_2 := hNW.f (A := ([.ref a_wo, .int x0] : List Value).toArray) ("MainframeCore$Words", 65, "MainframeCore$Instruction", "\x72", "I", "MainframeCore") (by decide +kernel)
  refine lv_aload_n hx hb dX10_store_0 rfl (lv_at hl 0 rfl) ?_
  refine lv_iload_n hx hb dX10_store_1 rfl (lv_at hl 1 rfl) ?_
  refine lv_iconst (v := 1) hx hb dX10_store_2 (by decide) ?_
  have hPc : va_P D vwCl (wX10_demandOperand cI cB a_wo a_ins a_mc a_me a_ps a_by a_ks a_rg v_op v_i v_r v_s v_a v_b v_fault v_word v_kF) H := hP.sub [0, 1, 2, 3, 4, 6] rfl
  have hDc : va_D A (wX10_demandOperand cI cB a_wo a_ins a_mc a_me a_ps a_by a_ks a_rg v_op v_i v_r v_s v_a v_b v_fault v_word v_kF) := hD.sub [0, 1, 2, 3, 4, 6] (by decide) rfl
  have hFc := va_free (wc := (wX10_demandOperand cI cB a_wo a_ins a_mc a_me a_ps a_by a_ks a_rg v_op v_i v_r v_s v_a v_b v_fault v_word v_kF)) hD hS hA [0, 1, 2, 3, 4, 6] rfl
  refine va_callv (va_runV (As := [.int x0, .int 1]) (rest := []) ⟨hx, hb, hml, hown, hts⟩ (kX10_demandOperand l D cI cB a_wo a_ins a_mc a_me a_ps a_by a_ks a_rg H.size v_op v_i v_r v_s v_a v_b v_fault v_word v_kF x0 1) (cwV 2 hts (gd_V wd_528 wd_529 wd_530 wd_495 wd_499) rfl rfl rfl hdX10_demandOperand ⟨Nat.le_of_ble_eq_true rfl, Nat.le_of_ble_eq_true rfl⟩) (preV_std (ci := 10) (q0 := 0) hPc hK hDc hNW rfl rfl) rfl rfl hl.1 rfl (lv_room (Nat.le_of_ble_eq_true rfl)) dX10_store_3 ⟨Nat.zero_le _, Nat.zero_le _⟩) hS (fun q _ h => hFc q h) hFc (fun u_3 t9 H1 locs ht9 hvm9 hw9 hB9 hz9 hk9 hS => ?_)
  have eu_3 : u_3 = fX10_demandOperand x0 1 v_a v_fault v_word v_kF := hw9
  obtain ⟨hP, hD⟩ := back_std (w1 := (wX10_demandOperand cI cB a_wo a_ins a_mc a_me a_ps a_by a_ks a_rg v_op v_i v_r v_s v_a v_b u_3 v_word v_kF)) (w2 := (wX10_store cI cB a_wo a_ins a_mc a_me a_ps a_by a_ks a_rg v_op v_i v_r v_s v_a v_b u_3 v_word v_bF v_kF v_rF)) (wr := [(a_by, .inl (cB, 8192, .inl v_bF)), (a_rg, .inl (cI, 16, .inl v_rF))]) hP hD [0, 1, 2, 3, 4, 6] [5, 7] [2, 3, 4, 5, 6, 0, 7, 1] rfl rfl (by decide) (by decide) hk9 hFc hB9 ht9 (by decide) rfl
  clear hB9 hk9 hz9 hvm9 ht9 hFc hPc hDc
  generalize H1 = H at hP hS ⊢
  refine lv_aload_n hx hb dX10_store_6 rfl (lv_at hl 0 rfl) ?_
  refine va_get (D := D) (ci := 10) (v := .ref a_mc) (C := RX10) (T := TX10) (N := 2) hx hb hts in_X10 hown hK hP 0 rfl rfl 0 (by decide) q_0 (fun _ h9 => h9) rfl dX10_store_7 ?_
  have hPc : va_P D vwCl (wX5_fine cI cB a_mc a_me a_ps a_rg u_3) H := hP.sub [2] rfl
  have hDc : va_D A (wX5_fine cI cB a_mc a_me a_ps a_rg u_3) := hD.sub [2] (by decide) rfl
  have hFc := va_free (wc := (wX5_fine cI cB a_mc a_me a_ps a_rg u_3)) hD hS hA [2] rfl
  refine va_calli (va_runV (As := []) (rest := []) ⟨hx, hb, hml, hown, hts⟩ (kX5_fine l D cI cB a_mc a_me a_ps a_rg H.size u_3 ) (cwV 0 hts (gd_V wd_503 wd_73 wd_74 wd_24 wd_66) rfl rfl rfl hdX5_fine ⟨Nat.le_of_ble_eq_true rfl, Nat.le_of_ble_eq_true rfl⟩) (preV_std (ci := 5) (q0 := 0) hPc hK hDc hNW rfl rfl) rfl rfl hl.1 rfl (lv_room (Nat.le_of_ble_eq_true rfl)) dX10_store_10 ⟨Nat.zero_le _, Nat.zero_le _⟩) hS (fun q _ h => hFc q h) hFc (fun r_10 u_10 t9 H1 locs ht9 hvm9 hw9 hB9 hz9 hk9 hS => ?_)
  have er_10 : r_10 = fX5_fine u_3 := hw9
  have zr_10 : r_10 = 0 ∨ r_10 = 1 := by rw [er_10]; exact zX5_fine _
  obtain ⟨hP, hD⟩ := back_std (w1 := (wX5_fine cI cB a_mc a_me a_ps a_rg u_3)) (w2 := (wX10_store cI cB a_wo a_ins a_mc a_me a_ps a_by a_ks a_rg v_op v_i v_r v_s v_a v_b u_3 v_word v_bF v_kF v_rF)) (wr := [(a_wo, .inr (10, [.ref a_mc, .ref a_ins])), (a_ins, .inr (4, [.ref a_mc, .ref a_me, .int v_op, .int v_i, .int v_r, .int v_s, .int v_a, .int v_b])), (a_me, .inr (6, [.ref a_by, .ref a_ks])), (a_ps, .inr (7, [.long v_word])), (a_by, .inl (cB, 8192, .inl v_bF)), (a_ks, .inl (cI, 4, .inl v_kF)), (a_rg, .inl (cI, 16, .inl v_rF))]) hP hD [2] [0, 1, 3, 4, 5, 6, 7] [0, 1, 7, 2, 3, 4, 5, 6] rfl rfl (by decide) (by decide) hk9 hFc hB9 ht9 (by decide) rfl
  clear hB9 hk9 hz9 hvm9 ht9 hFc hPc hDc
  generalize H1 = H at hP hS ⊢
  refine lv_if_eq (tgt := 49) hx hb dX10_store_13 (by decide) (fun c_13 => ?_) (fun c_13 => ?_)
  · skip
    have hf9 : (u_3, v_bF) = fX10_store x0 v_r v_a v_fault v_word v_bF v_kF v_rF := by simp only [fX10_store, ← eu_3, ← er_10, if_pos c_13]
    exact W.vret hx hb hr (fun t9 ht9 hW9 => ⟨⟨(u_3, v_bF), rfl, hf9, ⟨by rw [ht9]; exact hP, va_K.moved hW9.alike hK, hD⟩⟩, hS.F ht9⟩) hS.2.2 dX10_store_49
  · skip
    refine lv_aload_n hx hb dX10_store_16 rfl (lv_at hl 0 rfl) ?_
    refine va_get (D := D) (ci := 10) (v := .ref a_mc) (C := RX10) (T := TX10) (N := 2) hx hb hts in_X10 hown hK hP 0 rfl rfl 0 (by decide) q_0 (fun _ h9 => h9) rfl dX10_store_17 ?_
    refine va_getN (D := D) (ci := 5) (v := .ref a_me) (C := RX5) (T := TX5) (N := 4) hx hb hts in_X5 hown hK hP 2 rfl rfl 0 (by decide) n_0 (fun _ h9 => h9) rfl dX10_store_20 ?_
    refine lv_aload_n hx hb dX10_store_23 rfl (lv_at hl 0 rfl) ?_
    refine va_get (D := D) (ci := 10) (v := .ref a_ins) (C := RX10) (T := TX10) (N := 2) hx hb hts in_X10 hown hK hP 0 rfl rfl 1 (by decide) q_1 (fun _ h9 => h9) rfl dX10_store_24 ?_
    refine va_getN (D := D) (ci := 4) (v := .int v_a) (C := RX4) (T := TX4) (N := 8) hx hb hts in_X4 hown hK hP 1 rfl rfl 6 (by decide) n_1 (fun _ h9 => h9) rfl dX10_store_27 ?_
    refine lv_aload_n hx hb dX10_store_30 rfl (lv_at hl 0 rfl) ?_
    refine va_get (D := D) (ci := 10) (v := .ref a_mc) (C := RX10) (T := TX10) (N := 2) hx hb hts in_X10 hown hK hP 0 rfl rfl 0 (by decide) q_0 (fun _ h9 => h9) rfl dX10_store_31 ?_
    refine lv_aload_n hx hb dX10_store_34 rfl (lv_at hl 0 rfl) ?_
    refine va_get (D := D) (ci := 10) (v := .ref a_ins) (C := RX10) (T := TX10) (N := 2) hx hb hts in_X10 hown hK hP 0 rfl rfl 1 (by decide) q_1 (fun _ h9 => h9) rfl dX10_store_35 ?_
    refine va_getN (D := D) (ci := 4) (v := .int v_r) (C := RX4) (T := TX4) (N := 8) hx hb hts in_X4 hown hK hP 1 rfl rfl 4 (by decide) n_2 (fun _ h9 => h9) rfl dX10_store_38 ?_
    have hPc : va_P D vwCl (wX5_reg cI cB a_mc a_me a_ps a_rg u_3 v_rF) H := hP.sub [2, 7] rfl
    have hDc : va_D A (wX5_reg cI cB a_mc a_me a_ps a_rg u_3 v_rF) := hD.sub [2, 7] (by decide) rfl
    have hFc := va_free (wc := (wX5_reg cI cB a_mc a_me a_ps a_rg u_3 v_rF)) hD hS hA [2, 7] rfl
    refine va_calli (va_runV (As := [.int v_r]) (rest := [.int v_a, .ref a_me]) ⟨hx, hb, hml, hown, hts⟩ (kX5_reg l D cI cB a_mc a_me a_ps a_rg H.size u_3 v_rF v_r) (cwV 1 hts (gd_V wd_504 wd_31 wd_32 wd_24 wd_29) rfl rfl rfl hdX5_reg ⟨Nat.le_of_ble_eq_true rfl, Nat.le_of_ble_eq_true rfl⟩) (preV_std (ci := 5) (q0 := 0) hPc hK hDc hNW rfl rfl) rfl rfl hl.1 rfl (lv_room (Nat.le_of_ble_eq_true rfl)) dX10_store_41 ⟨Nat.zero_le _, Nat.zero_le _⟩) hS (fun q _ h => hFc q h) hFc (fun r_41 u_41 t9 H1 locs ht9 hvm9 hw9 hB9 hz9 hk9 hS => ?_)
    have er_41 : r_41 = fX5_reg v_r v_rF := hw9
    obtain ⟨hP, hD⟩ := back_std (w1 := (wX5_reg cI cB a_mc a_me a_ps a_rg u_3 v_rF)) (w2 := (wX10_store cI cB a_wo a_ins a_mc a_me a_ps a_by a_ks a_rg v_op v_i v_r v_s v_a v_b u_3 v_word v_bF v_kF v_rF)) (wr := [(a_wo, .inr (10, [.ref a_mc, .ref a_ins])), (a_ins, .inr (4, [.ref a_mc, .ref a_me, .int v_op, .int v_i, .int v_r, .int v_s, .int v_a, .int v_b])), (a_me, .inr (6, [.ref a_by, .ref a_ks])), (a_ps, .inr (7, [.long v_word])), (a_by, .inl (cB, 8192, .inl v_bF)), (a_ks, .inl (cI, 4, .inl v_kF))]) hP hD [2, 7] [0, 1, 3, 4, 5, 6] [0, 1, 6, 2, 3, 4, 5, 7] rfl rfl (by decide) (by decide) hk9 hFc hB9 ht9 (by decide) rfl
    clear hB9 hk9 hz9 hvm9 ht9 hFc hPc hDc
    generalize H1 = H at hP hS ⊢
    refine lv_i2l hx hb dX10_store_44 rfl ?_
    refine lv_iload_n hx hb dX10_store_45 rfl (lv_at hl 1 rfl) ?_
    have hPc : va_P D vwCl (wX6_setNumber cI cB a_me a_by a_ks v_bF) H := hP.sub [3, 5] rfl
    have hDc : va_D A (wX6_setNumber cI cB a_me a_by a_ks v_bF) := hD.sub [3, 5] (by decide) rfl
    have hFc := va_free (wc := (wX6_setNumber cI cB a_me a_by a_ks v_bF)) hD hS hA [3, 5] rfl
    refine va_callv (va_runV (As := [.int v_a, .long (r_41 : Int32).toInt64, .int x0]) (rest := []) ⟨hx, hb, hml, hown, hts⟩ (kX6_setNumber l D cI cB a_me a_by a_ks H.size v_bF v_a ((r_41 : Int32).toInt64) x0) (cwV 3 hts (gd_V wd_541 wd_542 wd_543 wd_78 wd_378) rfl rfl rfl hdX6_setNumber ⟨Nat.le_of_ble_eq_true rfl, Nat.le_of_ble_eq_true rfl⟩) (preV_std (ci := 6) (q0 := 0) hPc hK hDc hNW rfl rfl) rfl rfl hl.1 rfl (lv_room (Nat.le_of_ble_eq_true rfl)) dX10_store_46 ⟨Nat.zero_le _, Nat.zero_le _⟩) hS (fun q _ h => hFc q h) hFc (fun u_46 t9 H1 locs ht9 hvm9 hw9 hB9 hz9 hk9 hS => ?_)
    have eu_46 : u_46 = fX6_setNumber v_a ((r_41 : Int32).toInt64) x0 v_bF := hw9
    obtain ⟨hP, hD⟩ := back_std (w1 := (wX6_setNumber cI cB a_me a_by a_ks u_46)) (w2 := (wX10_store cI cB a_wo a_ins a_mc a_me a_ps a_by a_ks a_rg v_op v_i v_r v_s v_a v_b u_3 v_word u_46 v_kF v_rF)) (wr := [(a_wo, .inr (10, [.ref a_mc, .ref a_ins])), (a_ins, .inr (4, [.ref a_mc, .ref a_me, .int v_op, .int v_i, .int v_r, .int v_s, .int v_a, .int v_b])), (a_mc, .inr (5, [.ref a_me, .ref a_ps, .ref a_rg, .int u_3])), (a_ps, .inr (7, [.long v_word])), (a_ks, .inl (cI, 4, .inl v_kF)), (a_rg, .inl (cI, 16, .inl v_rF))]) hP hD [3, 5] [0, 1, 2, 4, 6, 7] [0, 1, 2, 6, 3, 7, 4, 5] rfl rfl (by decide) (by decide) hk9 hFc hB9 ht9 (by decide) rfl
    clear hB9 hk9 hz9 hvm9 ht9 hFc hPc hDc
    generalize H1 = H at hP hS ⊢
    have hf9 : (u_3, u_46) = fX10_store x0 v_r v_a v_fault v_word v_bF v_kF v_rF := by simp only [fX10_store, ← eu_3, ← er_10, ← er_41, ← eu_46, if_neg c_13]
    exact W.vret hx hb hr (fun t9 ht9 hW9 => ⟨⟨(u_3, u_46), rfl, hf9, ⟨by rw [ht9]; exact hP, va_K.moved hW9.alike hK, hD⟩⟩, hS.F ht9⟩) hS.2.2 dX10_store_49
theorem hdX10_store : yX10_store.cls = RX10 ∧ yX10_store.cls ≠ "java/lang/invoke/MethodHandle" ∧ yX10_store.cls ≠ "java/lang/invoke/VarHandle" ∧ (parseMethodDescriptor yX10_store.desc).map (fun d => d.parameters.length) = some 1 := by decide +kernel
noncomputable def fX10_insertByte (v_r : Int32) (v_a : Int32) (v_fault : Int32) (v_word : Int64) (v_bF : (Nat → Int32)) (v_kF : (Nat → Int32)) (v_rF : (Nat → Int32)) : (Int32 × (Nat → Int32)) :=
  let u_3 := fX10_demandOperand 1 0 v_a v_fault v_word v_kF
  let r_10 := fX5_fine u_3
  if r_10 = 0 then ((u_3, v_rF)) else (let r_41 := fX6_get v_a v_bF; let u_44 := fX5_setLastByte v_r r_41 v_rF; (u_3, u_44))
abbrev wX10_insertByte (cI cB : ClassId) (a_wo a_ins a_mc a_me a_ps a_by a_ks a_rg : Nat) (v_op : Int32) (v_i : Int32) (v_r : Int32) (v_s : Int32) (v_a : Int32) (v_b : Int32) (v_fault : Int32) (v_word : Int64) (v_bF : (Nat → Int32)) (v_kF : (Nat → Int32)) (v_rF : (Nat → Int32)) : va_W := [(a_wo, .inr (10, [.ref a_mc, .ref a_ins])), (a_ins, .inr (4, [.ref a_mc, .ref a_me, .int v_op, .int v_i, .int v_r, .int v_s, .int v_a, .int v_b])), (a_mc, .inr (5, [.ref a_me, .ref a_ps, .ref a_rg, .int v_fault])), (a_me, .inr (6, [.ref a_by, .ref a_ks])), (a_ps, .inr (7, [.long v_word])), (a_by, .inl (cB, 8192, .inl v_bF)), (a_ks, .inl (cI, 4, .inl v_kF)), (a_rg, .inl (cI, 16, .inl v_rF))]
abbrev rmX10_insertByte : Room := { frames := 3, cells := 0, slots := 0, locals := 71 }
abbrev qX10_insertByte (D : va_G) (cI cB : ClassId) (a_wo a_ins a_mc a_me a_ps a_by a_ks a_rg : Nat) (v_op : Int32) (v_i : Int32) (v_r : Int32) (v_s : Int32) (v_a : Int32) (v_b : Int32) (v_fault : Int32) (v_word : Int64) (v_bF : (Nat → Int32)) (v_kF : (Nat → Int32)) (v_rF : (Nat → Int32)) : (Nat → Prop) → Array Value → State → Outcome → State → Prop := fun A9 => va_Qv (fun (u9 : (Int32 × (Nat → Int32))) => u9 = fX10_insertByte v_r v_a v_fault v_word v_bF v_kF v_rF) (fun u9 t9 => atW D (TYS cI cB) A9 (wX10_insertByte cI cB a_wo a_ins a_mc a_me a_ps a_by a_ks a_rg v_op v_i v_r v_s v_a v_b u9.1 v_word v_bF v_kF u9.2) t9) A9
set_option maxHeartbeats 4000000 in
set_option maxRecDepth 100000 in
theorem kX10_insertByte (l : Launch) (D : va_G) (cI cB : ClassId) (a_wo a_ins a_mc a_me a_ps a_by a_ks a_rg : Nat) (sz : Nat) (v_op : Int32) (v_i : Int32) (v_r : Int32) (v_s : Int32) (v_a : Int32) (v_b : Int32) (v_fault : Int32) (v_word : Int64) (v_bF : (Nat → Int32)) (v_kF : (Nat → Int32)) (v_rF : (Nat → Int32)) : MetW l yX10_insertByte (WK yX10_insertByte cX10_insertByte 1 none) rmX10_insertByte D (TYS cI cB) (wX10_insertByte cI cB a_wo a_ins a_mc a_me a_ps a_by a_ks a_rg v_op v_i v_r v_s v_a v_b v_fault v_word v_bF v_kF v_rF) sz [.ref a_wo] (qX10_insertByte D cI cB a_wo a_ins a_mc a_me a_ps a_by a_ks a_rg v_op v_i v_r v_s v_a v_b v_fault v_word v_bF v_kF v_rF) 0 0 := by
  refine met_std (by decide) rfl (Nat.le_of_ble_eq_true rfl) ?_
  intro p e s m below meth c A ls H hx hb hr hml hown hts hlocks hA hP hK hD hS hNW hl
  have hl : lv_has ls 1 [(0, .ref a_wo)] := hl
  have q_0 := hts _ (List.mem_cons_of_mem _ wd_485)
  have q_1 := hts _ (List.mem_cons_of_mem _ wd_486)
  have n_0 := hNW.f (A := ([.ref a_wo] : List Value).toArray) ("MainframeCore$Words", 65, "MainframeCore$Instruction", "\x72", "I", "MainframeCore") (by decide +kernel)
  have n_1 := hNW.f (A := ([.ref a_wo] : List Value).toArray) ("MainframeCore$Words", 45, "MainframeCore$Machine", "memory", "LMainframeCore$Memory;", "MainframeCore") (by decide +kernel)
  have n_2 := hNW.f (A := ([.ref a_wo] : List Value).toArray) ("MainframeCore$Words", 49, "MainframeCore$Instruction", "a", "I", "MainframeCore") (by decide +kernel)
  refine lv_aload_n hx hb dX10_insertByte_0 rfl (lv_at hl 0 rfl) ?_
  refine lv_iconst (v := 1) hx hb dX10_insertByte_1 (by decide) ?_
  refine lv_iconst (v := 0) hx hb dX10_insertByte_2 (by decide) ?_
  have hPc : va_P D vwCl (wX10_demandOperand cI cB a_wo a_ins a_mc a_me a_ps a_by a_ks a_rg v_op v_i v_r v_s v_a v_b v_fault v_word v_kF) H := hP.sub [0, 1, 2, 3, 4, 6] rfl
  have hDc : va_D A (wX10_demandOperand cI cB a_wo a_ins a_mc a_me a_ps a_by a_ks a_rg v_op v_i v_r v_s v_a v_b v_fault v_word v_kF) := hD.sub [0, 1, 2, 3, 4, 6] (by decide) rfl
  have hFc := va_free (wc := (wX10_demandOperand cI cB a_wo a_ins a_mc a_me a_ps a_by a_ks a_rg v_op v_i v_r v_s v_a v_b v_fault v_word v_kF)) hD hS hA [0, 1, 2, 3, 4, 6] rfl
  refine va_callv (va_runV (As := [.int 1, .int 0]) (rest := []) ⟨hx, hb, hml, hown, hts⟩ (kX10_demandOperand l D cI cB a_wo a_ins a_mc a_me a_ps a_by a_ks a_rg H.size v_op v_i v_r v_s v_a v_b v_fault v_word v_kF 1 0) (cwV 2 hts (gd_V wd_528 wd_529 wd_530 wd_495 wd_499) rfl rfl rfl hdX10_demandOperand ⟨Nat.le_of_ble_eq_true rfl, Nat.le_of_ble_eq_true rfl⟩) (preV_std (ci := 10) (q0 := 0) hPc hK hDc hNW rfl rfl) rfl rfl hl.1 rfl (lv_room (Nat.le_of_ble_eq_true rfl)) dX10_insertByte_3 ⟨Nat.zero_le _, Nat.zero_le _⟩) hS (fun q _ h => hFc q h) hFc (fun u_3 t9 H1 locs ht9 hvm9 hw9 hB9 hz9 hk9 hS => ?_)
  have eu_3 : u_3 = fX10_demandOperand 1 0 v_a v_fault v_word v_kF := hw9
  obtain ⟨hP, hD⟩ := back_std (w1 := (wX10_demandOperand cI cB a_wo a_ins a_mc a_me a_ps a_by a_ks a_rg v_op v_i v_r v_s v_a v_b u_3 v_word v_kF)) (w2 := (wX10_insertByte cI cB a_wo a_ins a_mc a_me a_ps a_by a_ks a_rg v_op v_i v_r v_s v_a v_b u_3 v_word v_bF v_kF v_rF)) (wr := [(a_by, .inl (cB, 8192, .inl v_bF)), (a_rg, .inl (cI, 16, .inl v_rF))]) hP hD [0, 1, 2, 3, 4, 6] [5, 7] [2, 3, 4, 5, 6, 0, 7, 1] rfl rfl (by decide) (by decide) hk9 hFc hB9 ht9 (by decide) rfl
  clear hB9 hk9 hz9 hvm9 ht9 hFc hPc hDc
  generalize H1 = H at hP hS ⊢
  refine lv_aload_n hx hb dX10_insertByte_6 rfl (lv_at hl 0 rfl) ?_
  refine va_get (D := D) (ci := 10) (v := .ref a_mc) (C := RX10) (T := TX10) (N := 2) hx hb hts in_X10 hown hK hP 0 rfl rfl 0 (by decide) q_0 (fun _ h9 => h9) rfl dX10_insertByte_7 ?_
  have hPc : va_P D vwCl (wX5_fine cI cB a_mc a_me a_ps a_rg u_3) H := hP.sub [2] rfl
  have hDc : va_D A (wX5_fine cI cB a_mc a_me a_ps a_rg u_3) := hD.sub [2] (by decide) rfl
  have hFc := va_free (wc := (wX5_fine cI cB a_mc a_me a_ps a_rg u_3)) hD hS hA [2] rfl
  refine va_calli (va_runV (As := []) (rest := []) ⟨hx, hb, hml, hown, hts⟩ (kX5_fine l D cI cB a_mc a_me a_ps a_rg H.size u_3 ) (cwV 0 hts (gd_V wd_503 wd_73 wd_74 wd_24 wd_66) rfl rfl rfl hdX5_fine ⟨Nat.le_of_ble_eq_true rfl, Nat.le_of_ble_eq_true rfl⟩) (preV_std (ci := 5) (q0 := 0) hPc hK hDc hNW rfl rfl) rfl rfl hl.1 rfl (lv_room (Nat.le_of_ble_eq_true rfl)) dX10_insertByte_10 ⟨Nat.zero_le _, Nat.zero_le _⟩) hS (fun q _ h => hFc q h) hFc (fun r_10 u_10 t9 H1 locs ht9 hvm9 hw9 hB9 hz9 hk9 hS => ?_)
  have er_10 : r_10 = fX5_fine u_3 := hw9
  have zr_10 : r_10 = 0 ∨ r_10 = 1 := by rw [er_10]; exact zX5_fine _
  obtain ⟨hP, hD⟩ := back_std (w1 := (wX5_fine cI cB a_mc a_me a_ps a_rg u_3)) (w2 := (wX10_insertByte cI cB a_wo a_ins a_mc a_me a_ps a_by a_ks a_rg v_op v_i v_r v_s v_a v_b u_3 v_word v_bF v_kF v_rF)) (wr := [(a_wo, .inr (10, [.ref a_mc, .ref a_ins])), (a_ins, .inr (4, [.ref a_mc, .ref a_me, .int v_op, .int v_i, .int v_r, .int v_s, .int v_a, .int v_b])), (a_me, .inr (6, [.ref a_by, .ref a_ks])), (a_ps, .inr (7, [.long v_word])), (a_by, .inl (cB, 8192, .inl v_bF)), (a_ks, .inl (cI, 4, .inl v_kF)), (a_rg, .inl (cI, 16, .inl v_rF))]) hP hD [2] [0, 1, 3, 4, 5, 6, 7] [0, 1, 7, 2, 3, 4, 5, 6] rfl rfl (by decide) (by decide) hk9 hFc hB9 ht9 (by decide) rfl
  clear hB9 hk9 hz9 hvm9 ht9 hFc hPc hDc
  generalize H1 = H at hP hS ⊢
  refine lv_if_eq (tgt := 47) hx hb dX10_insertByte_13 (by decide) (fun c_13 => ?_) (fun c_13 => ?_)
  · skip
    have hf9 : (u_3, v_rF) = fX10_insertByte v_r v_a v_fault v_word v_bF v_kF v_rF := by simp only [fX10_insertByte, ← eu_3, ← er_10, if_pos c_13]
    exact W.vret hx hb hr (fun t9 ht9 hW9 => ⟨⟨(u_3, v_rF), rfl, hf9, ⟨by rw [ht9]; exact hP, va_K.moved hW9.alike hK, hD⟩⟩, hS.F ht9⟩) hS.2.2 dX10_insertByte_47
  · skip
    refine lv_aload_n hx hb dX10_insertByte_16 rfl (lv_at hl 0 rfl) ?_
    refine va_get (D := D) (ci := 10) (v := .ref a_mc) (C := RX10) (T := TX10) (N := 2) hx hb hts in_X10 hown hK hP 0 rfl rfl 0 (by decide) q_0 (fun _ h9 => h9) rfl dX10_insertByte_17 ?_
    refine lv_aload_n hx hb dX10_insertByte_20 rfl (lv_at hl 0 rfl) ?_
    refine va_get (D := D) (ci := 10) (v := .ref a_ins) (C := RX10) (T := TX10) (N := 2) hx hb hts in_X10 hown hK hP 0 rfl rfl 1 (by decide) q_1 (fun _ h9 => h9) rfl dX10_insertByte_21 ?_
    refine va_getN (D := D) (ci := 4) (v := .int v_r) (C := RX4) (T := TX4) (N := 8) hx hb hts in_X4 hown hK hP 1 rfl rfl 4 (by decide) n_0 (fun _ h9 => h9) rfl dX10_insertByte_24 ?_
    refine lv_aload_n hx hb dX10_insertByte_27 rfl (lv_at hl 0 rfl) ?_
    refine va_get (D := D) (ci := 10) (v := .ref a_mc) (C := RX10) (T := TX10) (N := 2) hx hb hts in_X10 hown hK hP 0 rfl rfl 0 (by decide) q_0 (fun _ h9 => h9) rfl dX10_insertByte_28 ?_
    refine va_getN (D := D) (ci := 5) (v := .ref a_me) (C := RX5) (T := TX5) (N := 4) hx hb hts in_X5 hown hK hP 2 rfl rfl 0 (by decide) n_1 (fun _ h9 => h9) rfl dX10_insertByte_31 ?_
    refine lv_aload_n hx hb dX10_insertByte_34 rfl (lv_at hl 0 rfl) ?_
    refine va_get (D := D) (ci := 10) (v := .ref a_ins) (C := RX10) (T := TX10) (N := 2) hx hb hts in_X10 hown hK hP 0 rfl rfl 1 (by decide) q_1 (fun _ h9 => h9) rfl dX10_insertByte_35 ?_
    refine va_getN (D := D) (ci := 4) (v := .int v_a) (C := RX4) (T := TX4) (N := 8) hx hb hts in_X4 hown hK hP 1 rfl rfl 6 (by decide) n_2 (fun _ h9 => h9) rfl dX10_insertByte_38 ?_
    have hPc : va_P D vwCl (wX6_get cI cB a_me a_by a_ks v_bF) H := hP.sub [3, 5] rfl
    have hDc : va_D A (wX6_get cI cB a_me a_by a_ks v_bF) := hD.sub [3, 5] (by decide) rfl
    have hFc := va_free (wc := (wX6_get cI cB a_me a_by a_ks v_bF)) hD hS hA [3, 5] rfl
    refine va_calli (va_runV (As := [.int v_a]) (rest := [.int v_r, .ref a_mc]) ⟨hx, hb, hml, hown, hts⟩ (kX6_get l D cI cB a_me a_by a_ks H.size v_bF v_a) (cwV 1 hts (gd_V wd_545 wd_109 wd_110 wd_78 wd_102) rfl rfl rfl hdX6_get ⟨Nat.le_of_ble_eq_true rfl, Nat.le_of_ble_eq_true rfl⟩) (preV_std (ci := 6) (q0 := 0) hPc hK hDc hNW rfl rfl) rfl rfl hl.1 rfl (lv_room (Nat.le_of_ble_eq_true rfl)) dX10_insertByte_41 ⟨Nat.zero_le _, Nat.zero_le _⟩) hS (fun q _ h => hFc q h) hFc (fun r_41 u_41 t9 H1 locs ht9 hvm9 hw9 hB9 hz9 hk9 hS => ?_)
    have er_41 : r_41 = fX6_get v_a v_bF := hw9
    obtain ⟨hP, hD⟩ := back_std (w1 := (wX6_get cI cB a_me a_by a_ks v_bF)) (w2 := (wX10_insertByte cI cB a_wo a_ins a_mc a_me a_ps a_by a_ks a_rg v_op v_i v_r v_s v_a v_b u_3 v_word v_bF v_kF v_rF)) (wr := [(a_wo, .inr (10, [.ref a_mc, .ref a_ins])), (a_ins, .inr (4, [.ref a_mc, .ref a_me, .int v_op, .int v_i, .int v_r, .int v_s, .int v_a, .int v_b])), (a_mc, .inr (5, [.ref a_me, .ref a_ps, .ref a_rg, .int u_3])), (a_ps, .inr (7, [.long v_word])), (a_ks, .inl (cI, 4, .inl v_kF)), (a_rg, .inl (cI, 16, .inl v_rF))]) hP hD [3, 5] [0, 1, 2, 4, 6, 7] [0, 1, 2, 6, 3, 7, 4, 5] rfl rfl (by decide) (by decide) hk9 hFc hB9 ht9 (by decide) rfl
    clear hB9 hk9 hz9 hvm9 ht9 hFc hPc hDc
    generalize H1 = H at hP hS ⊢
    have hPc : va_P D vwCl (wX5_setLastByte cI cB a_mc a_me a_ps a_rg u_3 v_rF) H := hP.sub [2, 7] rfl
    have hDc : va_D A (wX5_setLastByte cI cB a_mc a_me a_ps a_rg u_3 v_rF) := hD.sub [2, 7] (by decide) rfl
    have hFc := va_free (wc := (wX5_setLastByte cI cB a_mc a_me a_ps a_rg u_3 v_rF)) hD hS hA [2, 7] rfl
    refine va_callv (va_runV (As := [.int v_r, .int r_41]) (rest := []) ⟨hx, hb, hml, hown, hts⟩ (kX5_setLastByte l D cI cB a_mc a_me a_ps a_rg H.size u_3 v_rF v_r r_41) (cwV 2 hts (gd_V wd_546 wd_88 wd_89 wd_24 wd_81) rfl rfl rfl hdX5_setLastByte ⟨Nat.le_of_ble_eq_true rfl, Nat.le_of_ble_eq_true rfl⟩) (preV_std (ci := 5) (q0 := 0) hPc hK hDc hNW rfl rfl) rfl rfl hl.1 rfl (lv_room (Nat.le_of_ble_eq_true rfl)) dX10_insertByte_44 ⟨Nat.zero_le _, Nat.zero_le _⟩) hS (fun q _ h => hFc q h) hFc (fun u_44 t9 H1 locs ht9 hvm9 hw9 hB9 hz9 hk9 hS => ?_)
    have eu_44 : u_44 = fX5_setLastByte v_r r_41 v_rF := hw9
    obtain ⟨hP, hD⟩ := back_std (w1 := (wX5_setLastByte cI cB a_mc a_me a_ps a_rg u_3 u_44)) (w2 := (wX10_insertByte cI cB a_wo a_ins a_mc a_me a_ps a_by a_ks a_rg v_op v_i v_r v_s v_a v_b u_3 v_word v_bF v_kF u_44)) (wr := [(a_wo, .inr (10, [.ref a_mc, .ref a_ins])), (a_ins, .inr (4, [.ref a_mc, .ref a_me, .int v_op, .int v_i, .int v_r, .int v_s, .int v_a, .int v_b])), (a_me, .inr (6, [.ref a_by, .ref a_ks])), (a_ps, .inr (7, [.long v_word])), (a_by, .inl (cB, 8192, .inl v_bF)), (a_ks, .inl (cI, 4, .inl v_kF))]) hP hD [2, 7] [0, 1, 3, 4, 5, 6] [0, 1, 6, 2, 3, 4, 5, 7] rfl rfl (by decide) (by decide) hk9 hFc hB9 ht9 (by decide) rfl
    clear hB9 hk9 hz9 hvm9 ht9 hFc hPc hDc
    generalize H1 = H at hP hS ⊢
    have hf9 : (u_3, u_44) = fX10_insertByte v_r v_a v_fault v_word v_bF v_kF v_rF := by simp only [fX10_insertByte, ← eu_3, ← er_10, ← er_41, ← eu_44, if_neg c_13]
    exact W.vret hx hb hr (fun t9 ht9 hW9 => ⟨⟨(u_3, u_44), rfl, hf9, ⟨by rw [ht9]; exact hP, va_K.moved hW9.alike hK, hD⟩⟩, hS.F ht9⟩) hS.2.2 dX10_insertByte_47
theorem hdX10_insertByte : yX10_insertByte.cls = RX10 ∧ yX10_insertByte.cls ≠ "java/lang/invoke/MethodHandle" ∧ yX10_insertByte.cls ≠ "java/lang/invoke/VarHandle" ∧ (parseMethodDescriptor yX10_insertByte.desc).map (fun d => d.parameters.length) = some 0 := by decide +kernel
noncomputable def fX10_demandMany (x0 : Int32) (v_r : Int32) (v_s : Int32) (v_a : Int32) (v_fault : Int32) (v_word : Int64) (v_kF : (Nat → Int32)) : (Int32 × Int32) :=
  let x_20 := (((v_s - v_r) &&& 15) + 1)
  let u_36 := fX5_demand v_a (4 * x_20) x0 v_fault v_word v_kF
  let u_51 := fX5_demandAligned v_a 4 u_36
  (x_20, u_51)
abbrev wX10_demandMany (cI cB : ClassId) (a_wo a_ins a_mc a_me a_ps a_by a_ks a_rg : Nat) (v_op : Int32) (v_i : Int32) (v_r : Int32) (v_s : Int32) (v_a : Int32) (v_b : Int32) (v_fault : Int32) (v_word : Int64) (v_kF : (Nat → Int32)) : va_W := [(a_wo, .inr (10, [.ref a_mc, .ref a_ins])), (a_ins, .inr (4, [.ref a_mc, .ref a_me, .int v_op, .int v_i, .int v_r, .int v_s, .int v_a, .int v_b])), (a_mc, .inr (5, [.ref a_me, .ref a_ps, .ref a_rg, .int v_fault])), (a_me, .inr (6, [.ref a_by, .ref a_ks])), (a_ps, .inr (7, [.long v_word])), (a_ks, .inl (cI, 4, .inl v_kF))]
abbrev rmX10_demandMany : Room := { frames := 2, cells := 0, slots := 0, locals := 49 }
abbrev qX10_demandMany (D : va_G) (cI cB : ClassId) (a_wo a_ins a_mc a_me a_ps a_by a_ks a_rg : Nat) (v_op : Int32) (v_i : Int32) (v_r : Int32) (v_s : Int32) (v_a : Int32) (v_b : Int32) (v_fault : Int32) (v_word : Int64) (v_kF : (Nat → Int32)) (x0 : Int32) : (Nat → Prop) → Array Value → State → Outcome → State → Prop := fun A9 => va_Qi (fun (r9 : Int32) (u9 : Int32) => r9 = (fX10_demandMany x0 v_r v_s v_a v_fault v_word v_kF).1 ∧ u9 = (fX10_demandMany x0 v_r v_s v_a v_fault v_word v_kF).2) (fun u9 t9 => atW D (TYS cI cB) A9 (wX10_demandMany cI cB a_wo a_ins a_mc a_me a_ps a_by a_ks a_rg v_op v_i v_r v_s v_a v_b u9 v_word v_kF) t9) A9
set_option maxHeartbeats 4000000 in
set_option maxRecDepth 100000 in
theorem kX10_demandMany (l : Launch) (D : va_G) (cI cB : ClassId) (a_wo a_ins a_mc a_me a_ps a_by a_ks a_rg : Nat) (sz : Nat) (v_op : Int32) (v_i : Int32) (v_r : Int32) (v_s : Int32) (v_a : Int32) (v_b : Int32) (v_fault : Int32) (v_word : Int64) (v_kF : (Nat → Int32)) (x0 : Int32) : MetW l yX10_demandMany (WK yX10_demandMany cX10_demandMany 3 (some .int)) rmX10_demandMany D (TYS cI cB) (wX10_demandMany cI cB a_wo a_ins a_mc a_me a_ps a_by a_ks a_rg v_op v_i v_r v_s v_a v_b v_fault v_word v_kF) sz [.ref a_wo, .int x0] (qX10_demandMany D cI cB a_wo a_ins a_mc a_me a_ps a_by a_ks a_rg v_op v_i v_r v_s v_a v_b v_fault v_word v_kF x0) 0 0 := by
  refine met_std (by decide) rfl (Nat.le_of_ble_eq_true rfl) ?_
  intro p e s m below meth c A ls H hx hb hr hml hown hts hlocks hA hP hK hD hS hNW hl
  have hl : lv_has ls 3 [(0, .ref a_wo), (1, .int x0)] := hl
  have q_0 := hts _ (List.mem_cons_of_mem _ wd_486)
  have q_1 := hts _ (List.mem_cons_of_mem _ wd_485)
  have n_0 := hNW.f (A := ([.ref a_wo, .int x0] : List Value).toArray) ("MainframeCore$Words", 150, "MainframeCore$Instruction", "s", "I", "MainframeCore") (by decide +kernel)
  have n_1 := hNW.f (A := ([.ref a_wo, .int x0] : List Value).toArray) ("MainframeCore$Words", 65, "MainframeCore$Instruction", "\x72", "I", "MainframeCore") (by decide +kernel)
  have n_2 := hNW.f (A := ([.ref a_wo, .int x0] : List Value).toArray) ("MainframeCore$Words", 49, "MainframeCore$Instruction", "a", "I", "MainframeCore") (by decide +kernel)
  refine lv_aload_n hx hb dX10_demandMany_0 rfl (lv_at hl 0 rfl) ?_
  refine va_get (D := D) (ci := 10) (v := .ref a_ins) (C := RX10) (T := TX10) (N := 2) hx hb hts in_X10 hown hK hP 0 rfl rfl 1 (by decide) q_0 (fun _ h9 => h9) rfl dX10_demandMany_1 ?_
  refine va_getN (D := D) (ci := 4) (v := .int v_s) (C := RX4) (T := TX4) (N := 8) hx hb hts in_X4 hown hK hP 1 rfl rfl 5 (by decide) n_0 (fun _ h9 => h9) rfl dX10_demandMany_4 ?_
  refine lv_aload_n hx hb dX10_demandMany_7 rfl (lv_at hl 0 rfl) ?_
  refine va_get (D := D) (ci := 10) (v := .ref a_ins) (C := RX10) (T := TX10) (N := 2) hx hb hts in_X10 hown hK hP 0 rfl rfl 1 (by decide) q_0 (fun _ h9 => h9) rfl dX10_demandMany_8 ?_
  refine va_getN (D := D) (ci := 4) (v := .int v_r) (C := RX4) (T := TX4) (N := 8) hx hb hts in_X4 hown hK hP 1 rfl rfl 4 (by decide) n_1 (fun _ h9 => h9) rfl dX10_demandMany_11 ?_
  refine lv_isub hx hb dX10_demandMany_14 ?_
  refine lv_bipush (v := 15) hx hb dX10_demandMany_15 (by decide) ?_
  refine lv_iand hx hb dX10_demandMany_17 ?_
  refine lv_iconst (v := 1) hx hb dX10_demandMany_18 (by decide) ?_
  refine lv_iadd hx hb dX10_demandMany_19 ?_
  refine lv_topi (fun x_20 ex_20 => ?_)
  refine lv_istore_n (lv' := [(2, .int x_20), (0, .ref a_wo), (1, .int x0)]) hx hb dX10_demandMany_20 rfl hl (by decide) rfl (fun ls hl => ?_)
  refine lv_aload_n hx hb dX10_demandMany_21 rfl (lv_at hl 1 rfl) ?_
  refine va_get (D := D) (ci := 10) (v := .ref a_mc) (C := RX10) (T := TX10) (N := 2) hx hb hts in_X10 hown hK hP 0 rfl rfl 0 (by decide) q_1 (fun _ h9 => h9) rfl dX10_demandMany_22 ?_
  refine lv_aload_n hx hb dX10_demandMany_25 rfl (lv_at hl 1 rfl) ?_
  refine va_get (D := D) (ci := 10) (v := .ref a_ins) (C := RX10) (T := TX10) (N := 2) hx hb hts in_X10 hown hK hP 0 rfl rfl 1 (by decide) q_0 (fun _ h9 => h9) rfl dX10_demandMany_26 ?_
  refine va_getN (D := D) (ci := 4) (v := .int v_a) (C := RX4) (T := TX4) (N := 8) hx hb hts in_X4 hown hK hP 1 rfl rfl 6 (by decide) n_2 (fun _ h9 => h9) rfl dX10_demandMany_29 ?_
  refine lv_iconst (v := 4) hx hb dX10_demandMany_32 (by decide) ?_
  refine lv_iload_n hx hb dX10_demandMany_33 rfl (lv_at hl 0 rfl) ?_
  refine lv_imul hx hb dX10_demandMany_34 ?_
  refine lv_iload_n hx hb dX10_demandMany_35 rfl (lv_at hl 2 rfl) ?_
  have hPc : va_P D vwCl (wX5_demand cI cB a_mc a_me a_ps a_by a_ks a_rg v_fault v_word v_kF) H := hP.sub [2, 3, 4, 5] rfl
  have hDc : va_D A (wX5_demand cI cB a_mc a_me a_ps a_by a_ks a_rg v_fault v_word v_kF) := hD.sub [2, 3, 4, 5] (by decide) rfl
  have hFc := va_free (wc := (wX5_demand cI cB a_mc a_me a_ps a_by a_ks a_rg v_fault v_word v_kF)) hD hS hA [2, 3, 4, 5] rfl
  refine va_callv (va_runV (As := [.int v_a, .int (4 * x_20), .int x0]) (rest := []) ⟨hx, hb, hml, hown, hts⟩ (kX5_demand l D cI cB a_mc a_me a_ps a_by a_ks a_rg H.size v_fault v_word v_kF v_a (4 * x_20) x0) (cwV 3 hts (gd_V wd_497 wd_106 wd_107 wd_24 wd_93) rfl rfl rfl hdX5_demand ⟨Nat.le_of_ble_eq_true rfl, Nat.le_of_ble_eq_true rfl⟩) (preV_std (ci := 5) (q0 := 0) hPc hK hDc hNW rfl rfl) rfl rfl hl.1 rfl (lv_room (Nat.le_of_ble_eq_true rfl)) dX10_demandMany_36 ⟨Nat.zero_le _, Nat.zero_le _⟩) hS (fun q _ h => hFc q h) hFc (fun u_36 t9 H1 locs ht9 hvm9 hw9 hB9 hz9 hk9 hS => ?_)
  have eu_36 : u_36 = fX5_demand v_a (4 * x_20) x0 v_fault v_word v_kF := hw9
  obtain ⟨hP, hD⟩ := back_std (w1 := (wX5_demand cI cB a_mc a_me a_ps a_by a_ks a_rg u_36 v_word v_kF)) (w2 := (wX10_demandMany cI cB a_wo a_ins a_mc a_me a_ps a_by a_ks a_rg v_op v_i v_r v_s v_a v_b u_36 v_word v_kF)) (wr := [(a_wo, .inr (10, [.ref a_mc, .ref a_ins])), (a_ins, .inr (4, [.ref a_mc, .ref a_me, .int v_op, .int v_i, .int v_r, .int v_s, .int v_a, .int v_b]))]) hP hD [2, 3, 4, 5] [0, 1] [0, 1, 2, 3, 4, 5] rfl rfl (by decide) (by decide) hk9 hFc hB9 ht9 (by decide) rfl
  clear hB9 hk9 hz9 hvm9 ht9 hFc hPc hDc
  generalize H1 = H at hP hS ⊢
  refine lv_aload_n hx hb dX10_demandMany_39 rfl (lv_at hl 1 rfl) ?_
  refine va_get (D := D) (ci := 10) (v := .ref a_mc) (C := RX10) (T := TX10) (N := 2) hx hb hts in_X10 hown hK hP 0 rfl rfl 0 (by decide) q_1 (fun _ h9 => h9) rfl dX10_demandMany_40 ?_
  refine lv_aload_n hx hb dX10_demandMany_43 rfl (lv_at hl 1 rfl) ?_
  refine va_get (D := D) (ci := 10) (v := .ref a_ins) (C := RX10) (T := TX10) (N := 2) hx hb hts in_X10 hown hK hP 0 rfl rfl 1 (by decide) q_0 (fun _ h9 => h9) rfl dX10_demandMany_44 ?_
  refine va_getN (D := D) (ci := 4) (v := .int v_a) (C := RX4) (T := TX4) (N := 8) hx hb hts in_X4 hown hK hP 1 rfl rfl 6 (by decide) n_2 (fun _ h9 => h9) rfl dX10_demandMany_47 ?_
  refine lv_iconst (v := 4) hx hb dX10_demandMany_50 (by decide) ?_
  have hPc : va_P D vwCl (wX5_demandAligned cI cB a_mc a_me a_ps a_rg u_36) H := hP.sub [2] rfl
  have hDc : va_D A (wX5_demandAligned cI cB a_mc a_me a_ps a_rg u_36) := hD.sub [2] (by decide) rfl
  have hFc := va_free (wc := (wX5_demandAligned cI cB a_mc a_me a_ps a_rg u_36)) hD hS hA [2] rfl
  refine va_callv (va_runV (As := [.int v_a, .int 4]) (rest := []) ⟨hx, hb, hml, hown, hts⟩ (kX5_demandAligned l D cI cB a_mc a_me a_ps a_rg H.size u_36 v_a 4) (cwV 2 hts (gd_V wd_498 wd_62 wd_63 wd_24 wd_56) rfl rfl rfl hdX5_demandAligned ⟨Nat.le_of_ble_eq_true rfl, Nat.le_of_ble_eq_true rfl⟩) (preV_std (ci := 5) (q0 := 0) hPc hK hDc hNW rfl rfl) rfl rfl hl.1 rfl (lv_room (Nat.le_of_ble_eq_true rfl)) dX10_demandMany_51 ⟨Nat.zero_le _, Nat.zero_le _⟩) hS (fun q _ h => hFc q h) hFc (fun u_51 t9 H1 locs ht9 hvm9 hw9 hB9 hz9 hk9 hS => ?_)
  have eu_51 : u_51 = fX5_demandAligned v_a 4 u_36 := hw9
  obtain ⟨hP, hD⟩ := back_std (w1 := (wX5_demandAligned cI cB a_mc a_me a_ps a_rg u_51)) (w2 := (wX10_demandMany cI cB a_wo a_ins a_mc a_me a_ps a_by a_ks a_rg v_op v_i v_r v_s v_a v_b u_51 v_word v_kF)) (wr := [(a_wo, .inr (10, [.ref a_mc, .ref a_ins])), (a_ins, .inr (4, [.ref a_mc, .ref a_me, .int v_op, .int v_i, .int v_r, .int v_s, .int v_a, .int v_b])), (a_me, .inr (6, [.ref a_by, .ref a_ks])), (a_ps, .inr (7, [.long v_word])), (a_ks, .inl (cI, 4, .inl v_kF))]) hP hD [2] [0, 1, 3, 4, 5] [0, 1, 5, 2, 3, 4] rfl rfl (by decide) (by decide) hk9 hFc hB9 ht9 (by decide) rfl
  clear hB9 hk9 hz9 hvm9 ht9 hFc hPc hDc
  generalize H1 = H at hP hS ⊢
  refine lv_iload_n hx hb dX10_demandMany_54 rfl (lv_at hl 0 rfl) ?_
  have hf9 : (x_20, u_51) = fX10_demandMany x0 v_r v_s v_a v_fault v_word v_kF := by subst ex_20; simp only [fX10_demandMany, ← eu_36, ← eu_51]
  exact W.iret hx hb hr (fun t9 ht9 hW9 => ⟨⟨x_20, u_51, rfl, ⟨by rw [← hf9], by rw [← hf9]⟩, ⟨by rw [ht9]; exact hP, va_K.moved hW9.alike hK, hD⟩⟩, hS.F ht9⟩) hS.2.2 dX10_demandMany_55
theorem hdX10_demandMany : yX10_demandMany.cls = RX10 ∧ yX10_demandMany.cls ≠ "java/lang/invoke/MethodHandle" ∧ yX10_demandMany.cls ≠ "java/lang/invoke/VarHandle" ∧ (parseMethodDescriptor yX10_demandMany.desc).map (fun d => d.parameters.length) = some 1 := by decide +kernel
noncomputable def LX10_loadMany_8 (v_r : Int32) (v_a : Int32) (v_bF : (Nat → Int32)) (r_2 : Int32) (u_2 : Int32) : Nat → ((Nat → Int32) × Int32) → ((Nat → Int32) × Int32)
  | 0, w_8 => w_8
  | n9 + 1, w_8 =>
    if r_2 ≤ w_8.2 then ((w_8.1, w_8.2)) else (let r_17 := fX5_fine u_2; if r_17 = 0 then ((w_8.1, w_8.2)) else (let r_54 := fX6_word (v_a + (4 * w_8.2)) v_bF; let u_57 := fX5_setReg (v_r + w_8.2) r_54 w_8.1; let x_60 := w_8.2 + 1; LX10_loadMany_8 v_r v_a v_bF r_2 u_2 n9 (u_57, x_60)))
noncomputable def fX10_loadMany (v_r : Int32) (v_s : Int32) (v_a : Int32) (v_fault : Int32) (v_word : Int64) (v_bF : (Nat → Int32)) (v_kF : (Nat → Int32)) (v_rF : (Nat → Int32)) : (Int32 × (Nat → Int32)) :=
  let p_2 := fX10_demandMany 0 v_r v_s v_a v_fault v_word v_kF
  let r_2 := p_2.1
  let u_2 := p_2.2
  let g_8 := LX10_loadMany_8 v_r v_a v_bF r_2 u_2 (msU r_2 0 + 1) (v_rF, 0)
  (u_2, g_8.1)
abbrev wX10_loadMany (cI cB : ClassId) (a_wo a_ins a_mc a_me a_ps a_by a_ks a_rg : Nat) (v_op : Int32) (v_i : Int32) (v_r : Int32) (v_s : Int32) (v_a : Int32) (v_b : Int32) (v_fault : Int32) (v_word : Int64) (v_bF : (Nat → Int32)) (v_kF : (Nat → Int32)) (v_rF : (Nat → Int32)) : va_W := [(a_wo, .inr (10, [.ref a_mc, .ref a_ins])), (a_ins, .inr (4, [.ref a_mc, .ref a_me, .int v_op, .int v_i, .int v_r, .int v_s, .int v_a, .int v_b])), (a_mc, .inr (5, [.ref a_me, .ref a_ps, .ref a_rg, .int v_fault])), (a_me, .inr (6, [.ref a_by, .ref a_ks])), (a_ps, .inr (7, [.long v_word])), (a_by, .inl (cB, 8192, .inl v_bF)), (a_ks, .inl (cI, 4, .inl v_kF)), (a_rg, .inl (cI, 16, .inl v_rF))]
abbrev rmX10_loadMany : Room := { frames := 3, cells := 0, slots := 0, locals := 71 }
abbrev qX10_loadMany (D : va_G) (cI cB : ClassId) (a_wo a_ins a_mc a_me a_ps a_by a_ks a_rg : Nat) (v_op : Int32) (v_i : Int32) (v_r : Int32) (v_s : Int32) (v_a : Int32) (v_b : Int32) (v_fault : Int32) (v_word : Int64) (v_bF : (Nat → Int32)) (v_kF : (Nat → Int32)) (v_rF : (Nat → Int32)) : (Nat → Prop) → Array Value → State → Outcome → State → Prop := fun A9 => va_Qv (fun (u9 : (Int32 × (Nat → Int32))) => u9 = fX10_loadMany v_r v_s v_a v_fault v_word v_bF v_kF v_rF) (fun u9 t9 => atW D (TYS cI cB) A9 (wX10_loadMany cI cB a_wo a_ins a_mc a_me a_ps a_by a_ks a_rg v_op v_i v_r v_s v_a v_b u9.1 v_word v_bF v_kF u9.2) t9) A9
set_option maxHeartbeats 4000000 in
set_option maxRecDepth 100000 in
theorem kX10_loadMany (l : Launch) (D : va_G) (cI cB : ClassId) (a_wo a_ins a_mc a_me a_ps a_by a_ks a_rg : Nat) (sz : Nat) (v_op : Int32) (v_i : Int32) (v_r : Int32) (v_s : Int32) (v_a : Int32) (v_b : Int32) (v_fault : Int32) (v_word : Int64) (v_bF : (Nat → Int32)) (v_kF : (Nat → Int32)) (v_rF : (Nat → Int32)) : MetW l yX10_loadMany (WK yX10_loadMany cX10_loadMany 3 none) rmX10_loadMany D (TYS cI cB) (wX10_loadMany cI cB a_wo a_ins a_mc a_me a_ps a_by a_ks a_rg v_op v_i v_r v_s v_a v_b v_fault v_word v_bF v_kF v_rF) sz [.ref a_wo] (qX10_loadMany D cI cB a_wo a_ins a_mc a_me a_ps a_by a_ks a_rg v_op v_i v_r v_s v_a v_b v_fault v_word v_bF v_kF v_rF) 0 0 := by
  refine met_std (by decide) rfl (Nat.le_of_ble_eq_true rfl) ?_
  intro p e s m below meth c A ls H hx hb hr hml hown hts hlocks hA hP hK hD hS hNW hl
  have hl : lv_has ls 3 [(0, .ref a_wo)] := hl
  have q_0 := hts _ (List.mem_cons_of_mem _ wd_485)
  have q_1 := hts _ (List.mem_cons_of_mem _ wd_486)
  have n_0 := hNW.f (A := ([.ref a_wo] : List Value).toArray) ("MainframeCore$Words", 65, "MainframeCore$Instruction", "\x72", "I", "MainframeCore") (by decide +kernel)
  have n_1 := hNW.f (A := ([.ref a_wo] : List Value).toArray) ("MainframeCore$Words", 45, "MainframeCore$Machine", "memory", "LMainframeCore$Memory;", "MainframeCore") (by decide +kernel)
  have n_2 := hNW.f (A := ([.ref a_wo] : List Value).toArray) ("MainframeCore$Words", 49, "MainframeCore$Instruction", "a", "I", "MainframeCore") (by decide +kernel)
  refine lv_aload_n hx hb dX10_loadMany_0 rfl (lv_at hl 0 rfl) ?_
  refine lv_iconst (v := 0) hx hb dX10_loadMany_1 (by decide) ?_
  have hPc : va_P D vwCl (wX10_demandMany cI cB a_wo a_ins a_mc a_me a_ps a_by a_ks a_rg v_op v_i v_r v_s v_a v_b v_fault v_word v_kF) H := hP.sub [0, 1, 2, 3, 4, 6] rfl
  have hDc : va_D A (wX10_demandMany cI cB a_wo a_ins a_mc a_me a_ps a_by a_ks a_rg v_op v_i v_r v_s v_a v_b v_fault v_word v_kF) := hD.sub [0, 1, 2, 3, 4, 6] (by decide) rfl
  have hFc := va_free (wc := (wX10_demandMany cI cB a_wo a_ins a_mc a_me a_ps a_by a_ks a_rg v_op v_i v_r v_s v_a v_b v_fault v_word v_kF)) hD hS hA [0, 1, 2, 3, 4, 6] rfl
  refine va_calli (va_runV (As := [.int 0]) (rest := []) ⟨hx, hb, hml, hown, hts⟩ (kX10_demandMany l D cI cB a_wo a_ins a_mc a_me a_ps a_by a_ks a_rg H.size v_op v_i v_r v_s v_a v_b v_fault v_word v_kF 0) (cwV 1 hts (gd_V wd_549 wd_550 wd_551 wd_495 wd_548) rfl rfl rfl hdX10_demandMany ⟨Nat.le_of_ble_eq_true rfl, Nat.le_of_ble_eq_true rfl⟩) (preV_std (ci := 10) (q0 := 0) hPc hK hDc hNW rfl rfl) rfl rfl hl.1 rfl (lv_room (Nat.le_of_ble_eq_true rfl)) dX10_loadMany_2 ⟨Nat.zero_le _, Nat.zero_le _⟩) hS (fun q _ h => hFc q h) hFc (fun r_2 u_2 t9 H1 locs ht9 hvm9 hw9 hB9 hz9 hk9 hS => ?_)
  obtain ⟨er_2, eu_2⟩ := hw9
  obtain ⟨hP, hD⟩ := back_std (w1 := (wX10_demandMany cI cB a_wo a_ins a_mc a_me a_ps a_by a_ks a_rg v_op v_i v_r v_s v_a v_b u_2 v_word v_kF)) (w2 := (wX10_loadMany cI cB a_wo a_ins a_mc a_me a_ps a_by a_ks a_rg v_op v_i v_r v_s v_a v_b u_2 v_word v_bF v_kF v_rF)) (wr := [(a_by, .inl (cB, 8192, .inl v_bF)), (a_rg, .inl (cI, 16, .inl v_rF))]) hP hD [0, 1, 2, 3, 4, 6] [5, 7] [2, 3, 4, 5, 6, 0, 7, 1] rfl rfl (by decide) (by decide) hk9 hFc hB9 ht9 (by decide) rfl
  clear hB9 hk9 hz9 hvm9 ht9 hFc hPc hDc
  generalize H1 = H at hP hS ⊢
  refine lv_istore_n (lv' := [(1, .int r_2), (0, .ref a_wo)]) hx hb dX10_loadMany_5 rfl hl (by decide) rfl (fun ls hl => ?_)
  refine lv_iconst (v := 0) hx hb dX10_loadMany_6 (by decide) ?_
  refine lv_istore_n (lv' := [(2, .int 0), (1, .int r_2), (0, .ref a_wo)]) hx hb dX10_loadMany_7 rfl hl (by decide) rfl (fun ls hl => ?_)
  obtain ⟨g_8, eg_8⟩ : ∃ z : ((Nat → Int32) × Int32), z = LX10_loadMany_8 v_r v_a v_bF r_2 u_2 (msU r_2 0 + 1) (v_rF, 0) := ⟨_, rfl⟩
  have K_8_0 : ∀ (H : Heap) (locs : List Loc), va_P D vwCl (wX10_loadMany cI cB a_wo a_ins a_mc a_me a_ps a_by a_ks a_rg v_op v_i v_r v_s v_a v_b u_2 v_word v_bF v_kF g_8.1) H → va_D A (wX10_loadMany cI cB a_wo a_ins a_mc a_me a_ps a_by a_ks a_rg v_op v_i v_r v_s v_a v_b u_2 v_word v_bF v_kF g_8.1) → va_S A s.heap H locs → ∀ (ls : Array Slot), lv_has ls 3 [(0, .ref a_wo), (1, .int r_2), (2, .int g_8.2)] → W p l e rmX10_loadMany s m ([.ref a_wo] : List Value).toArray below meth c H locs 0 0 (MQ below (qX10_loadMany D cI cB a_wo a_ins a_mc a_me a_ps a_by a_ks a_rg v_op v_i v_r v_s v_a v_b v_fault v_word v_bF v_kF v_rF A) ([.ref a_wo] : List Value).toArray s 0 0 A) (F0 m 66 ls []) := by
    intro H locs hP hD hS ls hl
    have hf9 : (u_2, g_8.1) = fX10_loadMany v_r v_s v_a v_fault v_word v_bF v_kF v_rF := by simp only [fX10_loadMany, ← er_2, ← eu_2, ← eg_8]
    exact W.vret hx hb hr (fun t9 ht9 hW9 => ⟨⟨(u_2, g_8.1), rfl, hf9, ⟨by rw [ht9]; exact hP, va_K.moved hW9.alike hK, hD⟩⟩, hS.F ht9⟩) hS.2.2 dX10_loadMany_66
  have lp_8 : ∀ (n9 : Nat) (w_8 : ((Nat → Int32) × Int32)), msU r_2 w_8.2 < n9 → LX10_loadMany_8 v_r v_a v_bF r_2 u_2 n9 w_8 = g_8 → ∀ (H : Heap) (locs : List Loc), va_P D vwCl (wX10_loadMany cI cB a_wo a_ins a_mc a_me a_ps a_by a_ks a_rg v_op v_i v_r v_s v_a v_b u_2 v_word v_bF v_kF w_8.1) H → va_D A (wX10_loadMany cI cB a_wo a_ins a_mc a_me a_ps a_by a_ks a_rg v_op v_i v_r v_s v_a v_b u_2 v_word v_bF v_kF w_8.1) → va_S A s.heap H locs → ∀ (ls : Array Slot), lv_has ls 3 [(0, .ref a_wo), (1, .int r_2), (2, .int w_8.2)] → W p l e rmX10_loadMany s m ([.ref a_wo] : List Value).toArray below meth c H locs 0 0 (MQ below (qX10_loadMany D cI cB a_wo a_ins a_mc a_me a_ps a_by a_ks a_rg v_op v_i v_r v_s v_a v_b v_fault v_word v_bF v_kF v_rF A) ([.ref a_wo] : List Value).toArray s 0 0 A) (F0 m 8 ls []) := by
    intro n9
    induction n9 with
    | zero => intro w_8 hm9; exact absurd hm9 (Nat.not_lt_zero _)
    | succ n9 ih =>
      intro w_8 hm9 hL9 H locs hP hD hS ls hl
      refine lv_iload_n hx hb dX10_loadMany_8 rfl (lv_at hl 2 rfl) ?_
      refine lv_iload_n hx hb dX10_loadMany_9 rfl (lv_at hl 1 rfl) ?_
      refine lv_icmp_ge (tgt := 66) hx hb dX10_loadMany_10 (by decide) (fun c_10 => ?_) (fun c_10 => ?_)
      · skip
        have hg9 : (w_8.1, w_8.2) = g_8 := by rw [← hL9]; simp only [LX10_loadMany_8, if_pos c_10]
        subst hg9
        exact K_8_0 _ _ hP hD hS ls (lv_sub hl [0, 1, 2] rfl)
      · skip
        refine lv_aload_n hx hb dX10_loadMany_13 rfl (lv_at hl 0 rfl) ?_
        refine va_get (D := D) (ci := 10) (v := .ref a_mc) (C := RX10) (T := TX10) (N := 2) hx hb hts in_X10 hown hK hP 0 rfl rfl 0 (by decide) q_0 (fun _ h9 => h9) rfl dX10_loadMany_14 ?_
        have hPc : va_P D vwCl (wX5_fine cI cB a_mc a_me a_ps a_rg u_2) H := hP.sub [2] rfl
        have hDc : va_D A (wX5_fine cI cB a_mc a_me a_ps a_rg u_2) := hD.sub [2] (by decide) rfl
        have hFc := va_free (wc := (wX5_fine cI cB a_mc a_me a_ps a_rg u_2)) hD hS hA [2] rfl
        refine va_calli (va_runV (As := []) (rest := []) ⟨hx, hb, hml, hown, hts⟩ (kX5_fine l D cI cB a_mc a_me a_ps a_rg H.size u_2 ) (cwV 0 hts (gd_V wd_503 wd_73 wd_74 wd_24 wd_66) rfl rfl rfl hdX5_fine ⟨Nat.le_of_ble_eq_true rfl, Nat.le_of_ble_eq_true rfl⟩) (preV_std (ci := 5) (q0 := 0) hPc hK hDc hNW rfl rfl) rfl rfl hl.1 rfl (lv_room (Nat.le_of_ble_eq_true rfl)) dX10_loadMany_17 ⟨Nat.zero_le _, Nat.zero_le _⟩) hS (fun q _ h => hFc q h) hFc (fun r_17 u_17 t9 H1 locs ht9 hvm9 hw9 hB9 hz9 hk9 hS => ?_)
        have er_17 : r_17 = fX5_fine u_2 := hw9
        have zr_17 : r_17 = 0 ∨ r_17 = 1 := by rw [er_17]; exact zX5_fine _
        obtain ⟨hP, hD⟩ := back_std (w1 := (wX5_fine cI cB a_mc a_me a_ps a_rg u_2)) (w2 := (wX10_loadMany cI cB a_wo a_ins a_mc a_me a_ps a_by a_ks a_rg v_op v_i v_r v_s v_a v_b u_2 v_word v_bF v_kF w_8.1)) (wr := [(a_wo, .inr (10, [.ref a_mc, .ref a_ins])), (a_ins, .inr (4, [.ref a_mc, .ref a_me, .int v_op, .int v_i, .int v_r, .int v_s, .int v_a, .int v_b])), (a_me, .inr (6, [.ref a_by, .ref a_ks])), (a_ps, .inr (7, [.long v_word])), (a_by, .inl (cB, 8192, .inl v_bF)), (a_ks, .inl (cI, 4, .inl v_kF)), (a_rg, .inl (cI, 16, .inl w_8.1))]) hP hD [2] [0, 1, 3, 4, 5, 6, 7] [0, 1, 7, 2, 3, 4, 5, 6] rfl rfl (by decide) (by decide) hk9 hFc hB9 ht9 (by decide) rfl
        clear hB9 hk9 hz9 hvm9 ht9 hFc hPc hDc
        generalize H1 = H at hP hS ⊢
        refine lv_if_eq (tgt := 66) hx hb dX10_loadMany_20 (by decide) (fun c_20 => ?_) (fun c_20 => ?_)
        · skip
          have hg9 : (w_8.1, w_8.2) = g_8 := by rw [← hL9]; simp only [LX10_loadMany_8, ← er_17, if_neg c_10, if_pos c_20]
          subst hg9
          exact K_8_0 _ _ hP hD hS ls (lv_sub hl [0, 1, 2] rfl)
        · skip
          refine lv_aload_n hx hb dX10_loadMany_23 rfl (lv_at hl 0 rfl) ?_
          refine va_get (D := D) (ci := 10) (v := .ref a_mc) (C := RX10) (T := TX10) (N := 2) hx hb hts in_X10 hown hK hP 0 rfl rfl 0 (by decide) q_0 (fun _ h9 => h9) rfl dX10_loadMany_24 ?_
          refine lv_aload_n hx hb dX10_loadMany_27 rfl (lv_at hl 0 rfl) ?_
          refine va_get (D := D) (ci := 10) (v := .ref a_ins) (C := RX10) (T := TX10) (N := 2) hx hb hts in_X10 hown hK hP 0 rfl rfl 1 (by decide) q_1 (fun _ h9 => h9) rfl dX10_loadMany_28 ?_
          refine va_getN (D := D) (ci := 4) (v := .int v_r) (C := RX4) (T := TX4) (N := 8) hx hb hts in_X4 hown hK hP 1 rfl rfl 4 (by decide) n_0 (fun _ h9 => h9) rfl dX10_loadMany_31 ?_
          refine lv_iload_n hx hb dX10_loadMany_34 rfl (lv_at hl 2 rfl) ?_
          refine lv_iadd hx hb dX10_loadMany_35 ?_
          refine lv_aload_n hx hb dX10_loadMany_36 rfl (lv_at hl 0 rfl) ?_
          refine va_get (D := D) (ci := 10) (v := .ref a_mc) (C := RX10) (T := TX10) (N := 2) hx hb hts in_X10 hown hK hP 0 rfl rfl 0 (by decide) q_0 (fun _ h9 => h9) rfl dX10_loadMany_37 ?_
          refine va_getN (D := D) (ci := 5) (v := .ref a_me) (C := RX5) (T := TX5) (N := 4) hx hb hts in_X5 hown hK hP 2 rfl rfl 0 (by decide) n_1 (fun _ h9 => h9) rfl dX10_loadMany_40 ?_
          refine lv_aload_n hx hb dX10_loadMany_43 rfl (lv_at hl 0 rfl) ?_
          refine va_get (D := D) (ci := 10) (v := .ref a_ins) (C := RX10) (T := TX10) (N := 2) hx hb hts in_X10 hown hK hP 0 rfl rfl 1 (by decide) q_1 (fun _ h9 => h9) rfl dX10_loadMany_44 ?_
          refine va_getN (D := D) (ci := 4) (v := .int v_a) (C := RX4) (T := TX4) (N := 8) hx hb hts in_X4 hown hK hP 1 rfl rfl 6 (by decide) n_2 (fun _ h9 => h9) rfl dX10_loadMany_47 ?_
          refine lv_iconst (v := 4) hx hb dX10_loadMany_50 (by decide) ?_
          refine lv_iload_n hx hb dX10_loadMany_51 rfl (lv_at hl 2 rfl) ?_
          refine lv_imul hx hb dX10_loadMany_52 ?_
          refine lv_iadd hx hb dX10_loadMany_53 ?_
          have hPc : va_P D vwCl (wX6_word cI cB a_me a_by a_ks v_bF) H := hP.sub [3, 5] rfl
          have hDc : va_D A (wX6_word cI cB a_me a_by a_ks v_bF) := hD.sub [3, 5] (by decide) rfl
          have hFc := va_free (wc := (wX6_word cI cB a_me a_by a_ks v_bF)) hD hS hA [3, 5] rfl
          refine va_calli (va_runV (As := [.int ((v_a + (4 * w_8.2)))]) (rest := [.int (v_r + w_8.2), .ref a_mc]) ⟨hx, hb, hml, hown, hts⟩ (kX6_word l D cI cB a_me a_by a_ks H.size v_bF (v_a + (4 * w_8.2))) (cwV 1 hts (gd_V wd_531 wd_532 wd_533 wd_78 wd_380) rfl rfl rfl hdX6_word ⟨Nat.le_of_ble_eq_true rfl, Nat.le_of_ble_eq_true rfl⟩) (preV_std (ci := 6) (q0 := 0) hPc hK hDc hNW rfl rfl) rfl rfl hl.1 rfl (lv_room (Nat.le_of_ble_eq_true rfl)) dX10_loadMany_54 ⟨Nat.zero_le _, Nat.zero_le _⟩) hS (fun q _ h => hFc q h) hFc (fun r_54 u_54 t9 H1 locs ht9 hvm9 hw9 hB9 hz9 hk9 hS => ?_)
          have er_54 : r_54 = fX6_word (v_a + (4 * w_8.2)) v_bF := hw9
          obtain ⟨hP, hD⟩ := back_std (w1 := (wX6_word cI cB a_me a_by a_ks v_bF)) (w2 := (wX10_loadMany cI cB a_wo a_ins a_mc a_me a_ps a_by a_ks a_rg v_op v_i v_r v_s v_a v_b u_2 v_word v_bF v_kF w_8.1)) (wr := [(a_wo, .inr (10, [.ref a_mc, .ref a_ins])), (a_ins, .inr (4, [.ref a_mc, .ref a_me, .int v_op, .int v_i, .int v_r, .int v_s, .int v_a, .int v_b])), (a_mc, .inr (5, [.ref a_me, .ref a_ps, .ref a_rg, .int u_2])), (a_ps, .inr (7, [.long v_word])), (a_ks, .inl (cI, 4, .inl v_kF)), (a_rg, .inl (cI, 16, .inl w_8.1))]) hP hD [3, 5] [0, 1, 2, 4, 6, 7] [0, 1, 2, 6, 3, 7, 4, 5] rfl rfl (by decide) (by decide) hk9 hFc hB9 ht9 (by decide) rfl
          clear hB9 hk9 hz9 hvm9 ht9 hFc hPc hDc
          generalize H1 = H at hP hS ⊢
          have hPc : va_P D vwCl (wX5_setReg cI cB a_mc a_me a_ps a_rg u_2 w_8.1) H := hP.sub [2, 7] rfl
          have hDc : va_D A (wX5_setReg cI cB a_mc a_me a_ps a_rg u_2 w_8.1) := hD.sub [2, 7] (by decide) rfl
          have hFc := va_free (wc := (wX5_setReg cI cB a_mc a_me a_ps a_rg u_2 w_8.1)) hD hS hA [2, 7] rfl
          refine va_callv (va_runV (As := [.int (v_r + w_8.2), .int r_54]) (rest := []) ⟨hx, hb, hml, hown, hts⟩ (kX5_setReg l D cI cB a_mc a_me a_ps a_rg H.size u_2 w_8.1 (v_r + w_8.2) r_54) (cwV 2 hts (gd_V wd_487 wd_22 wd_23 wd_24 wd_6) rfl rfl rfl hdX5_setReg ⟨Nat.le_of_ble_eq_true rfl, Nat.le_of_ble_eq_true rfl⟩) (preV_std (ci := 5) (q0 := 0) hPc hK hDc hNW rfl rfl) rfl rfl hl.1 rfl (lv_room (Nat.le_of_ble_eq_true rfl)) dX10_loadMany_57 ⟨Nat.zero_le _, Nat.zero_le _⟩) hS (fun q _ h => hFc q h) hFc (fun u_57 t9 H1 locs ht9 hvm9 hw9 hB9 hz9 hk9 hS => ?_)
          have eu_57 : u_57 = fX5_setReg (v_r + w_8.2) r_54 w_8.1 := hw9
          obtain ⟨hP, hD⟩ := back_std (w1 := (wX5_setReg cI cB a_mc a_me a_ps a_rg u_2 u_57)) (w2 := (wX10_loadMany cI cB a_wo a_ins a_mc a_me a_ps a_by a_ks a_rg v_op v_i v_r v_s v_a v_b u_2 v_word v_bF v_kF u_57)) (wr := [(a_wo, .inr (10, [.ref a_mc, .ref a_ins])), (a_ins, .inr (4, [.ref a_mc, .ref a_me, .int v_op, .int v_i, .int v_r, .int v_s, .int v_a, .int v_b])), (a_me, .inr (6, [.ref a_by, .ref a_ks])), (a_ps, .inr (7, [.long v_word])), (a_by, .inl (cB, 8192, .inl v_bF)), (a_ks, .inl (cI, 4, .inl v_kF))]) hP hD [2, 7] [0, 1, 3, 4, 5, 6] [0, 1, 6, 2, 3, 4, 5, 7] rfl rfl (by decide) (by decide) hk9 hFc hB9 ht9 (by decide) rfl
          clear hB9 hk9 hz9 hvm9 ht9 hFc hPc hDc
          generalize H1 = H at hP hS ⊢
          obtain ⟨x_60, ex_60⟩ : ∃ z : Int32, z = w_8.2 + 1 := ⟨_, rfl⟩
          refine lv_iinc (v := x_60) (lv' := [(2, .int x_60), (0, .ref a_wo), (1, .int r_2)]) hx hb dX10_loadMany_60 hl (k := 2) rfl (by rw [ex_60]; rfl) (by decide) rfl (fun ls hl => ?_)
          refine lv_goto (tgt := 8) hx hb dX10_loadMany_63 (by decide) ?_
          exact ih (u_57, x_60) (by subst ex_60; subst eu_57; subst er_54; subst er_17;  exact Nat.lt_of_lt_of_le (ms_up c_10) (Nat.le_of_lt_succ hm9)) (by rw [← hL9]; subst ex_60; simp only [LX10_loadMany_8, ← er_17, ← er_54, ← eu_57, if_neg c_10, if_neg c_20]) _ _ hP hD hS ls (lv_sub hl [1, 2, 0] rfl)
  exact lp_8 (msU r_2 0 + 1) (v_rF, 0) (Nat.lt_succ_self _) eg_8.symm _ _ hP hD hS ls (lv_sub hl [2, 1, 0] rfl)
theorem hdX10_loadMany : yX10_loadMany.cls = RX10 ∧ yX10_loadMany.cls ≠ "java/lang/invoke/MethodHandle" ∧ yX10_loadMany.cls ≠ "java/lang/invoke/VarHandle" ∧ (parseMethodDescriptor yX10_loadMany.desc).map (fun d => d.parameters.length) = some 0 := by decide +kernel
noncomputable def LX10_storeMany_8 (v_r : Int32) (v_a : Int32) (v_rF : (Nat → Int32)) (r_2 : Int32) (u_2 : Int32) : Nat → ((Nat → Int32) × Int32) → ((Nat → Int32) × Int32)
  | 0, w_8 => w_8
  | n9 + 1, w_8 =>
    if r_2 ≤ w_8.2 then ((w_8.1, w_8.2)) else (let r_17 := fX5_fine u_2; if r_17 = 0 then ((w_8.1, w_8.2)) else (let r_54 := fX5_reg (v_r + w_8.2) v_rF; let u_59 := fX6_setNumber (v_a + (4 * w_8.2)) ((r_54 : Int32).toInt64) 4 w_8.1; let x_62 := w_8.2 + 1; LX10_storeMany_8 v_r v_a v_rF r_2 u_2 n9 (u_59, x_62)))
noncomputable def fX10_storeMany (v_r : Int32) (v_s : Int32) (v_a : Int32) (v_fault : Int32) (v_word : Int64) (v_bF : (Nat → Int32)) (v_kF : (Nat → Int32)) (v_rF : (Nat → Int32)) : (Int32 × (Nat → Int32)) :=
  let p_2 := fX10_demandMany 1 v_r v_s v_a v_fault v_word v_kF
  let r_2 := p_2.1
  let u_2 := p_2.2
  let g_8 := LX10_storeMany_8 v_r v_a v_rF r_2 u_2 (msU r_2 0 + 1) (v_bF, 0)
  (u_2, g_8.1)
abbrev wX10_storeMany (cI cB : ClassId) (a_wo a_ins a_mc a_me a_ps a_by a_ks a_rg : Nat) (v_op : Int32) (v_i : Int32) (v_r : Int32) (v_s : Int32) (v_a : Int32) (v_b : Int32) (v_fault : Int32) (v_word : Int64) (v_bF : (Nat → Int32)) (v_kF : (Nat → Int32)) (v_rF : (Nat → Int32)) : va_W := [(a_wo, .inr (10, [.ref a_mc, .ref a_ins])), (a_ins, .inr (4, [.ref a_mc, .ref a_me, .int v_op, .int v_i, .int v_r, .int v_s, .int v_a, .int v_b])), (a_mc, .inr (5, [.ref a_me, .ref a_ps, .ref a_rg, .int v_fault])), (a_me, .inr (6, [.ref a_by, .ref a_ks])), (a_ps, .inr (7, [.long v_word])), (a_by, .inl (cB, 8192, .inl v_bF)), (a_ks, .inl (cI, 4, .inl v_kF)), (a_rg, .inl (cI, 16, .inl v_rF))]
abbrev rmX10_storeMany : Room := { frames := 3, cells := 0, slots := 0, locals := 71 }
abbrev qX10_storeMany (D : va_G) (cI cB : ClassId) (a_wo a_ins a_mc a_me a_ps a_by a_ks a_rg : Nat) (v_op : Int32) (v_i : Int32) (v_r : Int32) (v_s : Int32) (v_a : Int32) (v_b : Int32) (v_fault : Int32) (v_word : Int64) (v_bF : (Nat → Int32)) (v_kF : (Nat → Int32)) (v_rF : (Nat → Int32)) : (Nat → Prop) → Array Value → State → Outcome → State → Prop := fun A9 => va_Qv (fun (u9 : (Int32 × (Nat → Int32))) => u9 = fX10_storeMany v_r v_s v_a v_fault v_word v_bF v_kF v_rF) (fun u9 t9 => atW D (TYS cI cB) A9 (wX10_storeMany cI cB a_wo a_ins a_mc a_me a_ps a_by a_ks a_rg v_op v_i v_r v_s v_a v_b u9.1 v_word u9.2 v_kF v_rF) t9) A9
set_option maxHeartbeats 4000000 in
set_option maxRecDepth 100000 in
theorem kX10_storeMany (l : Launch) (D : va_G) (cI cB : ClassId) (a_wo a_ins a_mc a_me a_ps a_by a_ks a_rg : Nat) (sz : Nat) (v_op : Int32) (v_i : Int32) (v_r : Int32) (v_s : Int32) (v_a : Int32) (v_b : Int32) (v_fault : Int32) (v_word : Int64) (v_bF : (Nat → Int32)) (v_kF : (Nat → Int32)) (v_rF : (Nat → Int32)) : MetW l yX10_storeMany (WK yX10_storeMany cX10_storeMany 3 none) rmX10_storeMany D (TYS cI cB) (wX10_storeMany cI cB a_wo a_ins a_mc a_me a_ps a_by a_ks a_rg v_op v_i v_r v_s v_a v_b v_fault v_word v_bF v_kF v_rF) sz [.ref a_wo] (qX10_storeMany D cI cB a_wo a_ins a_mc a_me a_ps a_by a_ks a_rg v_op v_i v_r v_s v_a v_b v_fault v_word v_bF v_kF v_rF) 0 0 := by
  refine met_std (by decide) rfl (Nat.le_of_ble_eq_true rfl) ?_
  intro p e s m below meth c A ls H hx hb hr hml hown hts hlocks hA hP hK hD hS hNW hl
  have hl : lv_has ls 3 [(0, .ref a_wo)] := hl
  have q_0 := hts _ (List.mem_cons_of_mem _ wd_485)
  have q_1 := hts _ (List.mem_cons_of_mem _ wd_486)
  have n_0 := hNW.f (A := ([.ref a_wo] : List Value).toArray) ("MainframeCore$Words", 45, "MainframeCore$Machine", "memory", "LMainframeCore$Memory;", "MainframeCore") (by decide +kernel)
  have n_1 := hNW.f (A := ([.ref a_wo] : List Value).toArray) ("MainframeCore$Words", 49, "MainframeCore$Instruction", "a", "I", "MainframeCore") (by decide +kernel)
  have n_2 := hNW.f (A := ([.ref a_wo] : List Value).toArray) ("MainframeCore$Words", 65, "MainframeCore$Instruction", "\x72", "I", "MainframeCore") (by decide +kernel)
  refine lv_aload_n hx hb dX10_storeMany_0 rfl (lv_at hl 0 rfl) ?_
  refine lv_iconst (v := 1) hx hb dX10_storeMany_1 (by decide) ?_
  have hPc : va_P D vwCl (wX10_demandMany cI cB a_wo a_ins a_mc a_me a_ps a_by a_ks a_rg v_op v_i v_r v_s v_a v_b v_fault v_word v_kF) H := hP.sub [0, 1, 2, 3, 4, 6] rfl
  have hDc : va_D A (wX10_demandMany cI cB a_wo a_ins a_mc a_me a_ps a_by a_ks a_rg v_op v_i v_r v_s v_a v_b v_fault v_word v_kF) := hD.sub [0, 1, 2, 3, 4, 6] (by decide) rfl
  have hFc := va_free (wc := (wX10_demandMany cI cB a_wo a_ins a_mc a_me a_ps a_by a_ks a_rg v_op v_i v_r v_s v_a v_b v_fault v_word v_kF)) hD hS hA [0, 1, 2, 3, 4, 6] rfl
  refine va_calli (va_runV (As := [.int 1]) (rest := []) ⟨hx, hb, hml, hown, hts⟩ (kX10_demandMany l D cI cB a_wo a_ins a_mc a_me a_ps a_by a_ks a_rg H.size v_op v_i v_r v_s v_a v_b v_fault v_word v_kF 1) (cwV 1 hts (gd_V wd_549 wd_550 wd_551 wd_495 wd_548) rfl rfl rfl hdX10_demandMany ⟨Nat.le_of_ble_eq_true rfl, Nat.le_of_ble_eq_true rfl⟩) (preV_std (ci := 10) (q0 := 0) hPc hK hDc hNW rfl rfl) rfl rfl hl.1 rfl (lv_room (Nat.le_of_ble_eq_true rfl)) dX10_storeMany_2 ⟨Nat.zero_le _, Nat.zero_le _⟩) hS (fun q _ h => hFc q h) hFc (fun r_2 u_2 t9 H1 locs ht9 hvm9 hw9 hB9 hz9 hk9 hS => ?_)
  obtain ⟨er_2, eu_2⟩ := hw9
  obtain ⟨hP, hD⟩ := back_std (w1 := (wX10_demandMany cI cB a_wo a_ins a_mc a_me a_ps a_by a_ks a_rg v_op v_i v_r v_s v_a v_b u_2 v_word v_kF)) (w2 := (wX10_storeMany cI cB a_wo a_ins a_mc a_me a_ps a_by a_ks a_rg v_op v_i v_r v_s v_a v_b u_2 v_word v_bF v_kF v_rF)) (wr := [(a_by, .inl (cB, 8192, .inl v_bF)), (a_rg, .inl (cI, 16, .inl v_rF))]) hP hD [0, 1, 2, 3, 4, 6] [5, 7] [2, 3, 4, 5, 6, 0, 7, 1] rfl rfl (by decide) (by decide) hk9 hFc hB9 ht9 (by decide) rfl
  clear hB9 hk9 hz9 hvm9 ht9 hFc hPc hDc
  generalize H1 = H at hP hS ⊢
  refine lv_istore_n (lv' := [(1, .int r_2), (0, .ref a_wo)]) hx hb dX10_storeMany_5 rfl hl (by decide) rfl (fun ls hl => ?_)
  refine lv_iconst (v := 0) hx hb dX10_storeMany_6 (by decide) ?_
  refine lv_istore_n (lv' := [(2, .int 0), (1, .int r_2), (0, .ref a_wo)]) hx hb dX10_storeMany_7 rfl hl (by decide) rfl (fun ls hl => ?_)
  obtain ⟨g_8, eg_8⟩ : ∃ z : ((Nat → Int32) × Int32), z = LX10_storeMany_8 v_r v_a v_rF r_2 u_2 (msU r_2 0 + 1) (v_bF, 0) := ⟨_, rfl⟩
  have K_8_0 : ∀ (H : Heap) (locs : List Loc), va_P D vwCl (wX10_storeMany cI cB a_wo a_ins a_mc a_me a_ps a_by a_ks a_rg v_op v_i v_r v_s v_a v_b u_2 v_word g_8.1 v_kF v_rF) H → va_D A (wX10_storeMany cI cB a_wo a_ins a_mc a_me a_ps a_by a_ks a_rg v_op v_i v_r v_s v_a v_b u_2 v_word g_8.1 v_kF v_rF) → va_S A s.heap H locs → ∀ (ls : Array Slot), lv_has ls 3 [(0, .ref a_wo), (1, .int r_2), (2, .int g_8.2)] → W p l e rmX10_storeMany s m ([.ref a_wo] : List Value).toArray below meth c H locs 0 0 (MQ below (qX10_storeMany D cI cB a_wo a_ins a_mc a_me a_ps a_by a_ks a_rg v_op v_i v_r v_s v_a v_b v_fault v_word v_bF v_kF v_rF A) ([.ref a_wo] : List Value).toArray s 0 0 A) (F0 m 68 ls []) := by
    intro H locs hP hD hS ls hl
    have hf9 : (u_2, g_8.1) = fX10_storeMany v_r v_s v_a v_fault v_word v_bF v_kF v_rF := by simp only [fX10_storeMany, ← er_2, ← eu_2, ← eg_8]
    exact W.vret hx hb hr (fun t9 ht9 hW9 => ⟨⟨(u_2, g_8.1), rfl, hf9, ⟨by rw [ht9]; exact hP, va_K.moved hW9.alike hK, hD⟩⟩, hS.F ht9⟩) hS.2.2 dX10_storeMany_68
  have lp_8 : ∀ (n9 : Nat) (w_8 : ((Nat → Int32) × Int32)), msU r_2 w_8.2 < n9 → LX10_storeMany_8 v_r v_a v_rF r_2 u_2 n9 w_8 = g_8 → ∀ (H : Heap) (locs : List Loc), va_P D vwCl (wX10_storeMany cI cB a_wo a_ins a_mc a_me a_ps a_by a_ks a_rg v_op v_i v_r v_s v_a v_b u_2 v_word w_8.1 v_kF v_rF) H → va_D A (wX10_storeMany cI cB a_wo a_ins a_mc a_me a_ps a_by a_ks a_rg v_op v_i v_r v_s v_a v_b u_2 v_word w_8.1 v_kF v_rF) → va_S A s.heap H locs → ∀ (ls : Array Slot), lv_has ls 3 [(0, .ref a_wo), (1, .int r_2), (2, .int w_8.2)] → W p l e rmX10_storeMany s m ([.ref a_wo] : List Value).toArray below meth c H locs 0 0 (MQ below (qX10_storeMany D cI cB a_wo a_ins a_mc a_me a_ps a_by a_ks a_rg v_op v_i v_r v_s v_a v_b v_fault v_word v_bF v_kF v_rF A) ([.ref a_wo] : List Value).toArray s 0 0 A) (F0 m 8 ls []) := by
    intro n9
    induction n9 with
    | zero => intro w_8 hm9; exact absurd hm9 (Nat.not_lt_zero _)
    | succ n9 ih =>
      intro w_8 hm9 hL9 H locs hP hD hS ls hl
      refine lv_iload_n hx hb dX10_storeMany_8 rfl (lv_at hl 2 rfl) ?_
      refine lv_iload_n hx hb dX10_storeMany_9 rfl (lv_at hl 1 rfl) ?_
      refine lv_icmp_ge (tgt := 68) hx hb dX10_storeMany_10 (by decide) (fun c_10 => ?_) (fun c_10 => ?_)
      · skip
        have hg9 : (w_8.1, w_8.2) = g_8 := by rw [← hL9]; simp only [LX10_storeMany_8, if_pos c_10]
        subst hg9
        exact K_8_0 _ _ hP hD hS ls (lv_sub hl [0, 1, 2] rfl)
      · skip
        refine lv_aload_n hx hb dX10_storeMany_13 rfl (lv_at hl 0 rfl) ?_
        refine va_get (D := D) (ci := 10) (v := .ref a_mc) (C := RX10) (T := TX10) (N := 2) hx hb hts in_X10 hown hK hP 0 rfl rfl 0 (by decide) q_0 (fun _ h9 => h9) rfl dX10_storeMany_14 ?_
        have hPc : va_P D vwCl (wX5_fine cI cB a_mc a_me a_ps a_rg u_2) H := hP.sub [2] rfl
        have hDc : va_D A (wX5_fine cI cB a_mc a_me a_ps a_rg u_2) := hD.sub [2] (by decide) rfl
        have hFc := va_free (wc := (wX5_fine cI cB a_mc a_me a_ps a_rg u_2)) hD hS hA [2] rfl
        refine va_calli (va_runV (As := []) (rest := []) ⟨hx, hb, hml, hown, hts⟩ (kX5_fine l D cI cB a_mc a_me a_ps a_rg H.size u_2 ) (cwV 0 hts (gd_V wd_503 wd_73 wd_74 wd_24 wd_66) rfl rfl rfl hdX5_fine ⟨Nat.le_of_ble_eq_true rfl, Nat.le_of_ble_eq_true rfl⟩) (preV_std (ci := 5) (q0 := 0) hPc hK hDc hNW rfl rfl) rfl rfl hl.1 rfl (lv_room (Nat.le_of_ble_eq_true rfl)) dX10_storeMany_17 ⟨Nat.zero_le _, Nat.zero_le _⟩) hS (fun q _ h => hFc q h) hFc (fun r_17 u_17 t9 H1 locs ht9 hvm9 hw9 hB9 hz9 hk9 hS => ?_)
        have er_17 : r_17 = fX5_fine u_2 := hw9
        have zr_17 : r_17 = 0 ∨ r_17 = 1 := by rw [er_17]; exact zX5_fine _
        obtain ⟨hP, hD⟩ := back_std (w1 := (wX5_fine cI cB a_mc a_me a_ps a_rg u_2)) (w2 := (wX10_storeMany cI cB a_wo a_ins a_mc a_me a_ps a_by a_ks a_rg v_op v_i v_r v_s v_a v_b u_2 v_word w_8.1 v_kF v_rF)) (wr := [(a_wo, .inr (10, [.ref a_mc, .ref a_ins])), (a_ins, .inr (4, [.ref a_mc, .ref a_me, .int v_op, .int v_i, .int v_r, .int v_s, .int v_a, .int v_b])), (a_me, .inr (6, [.ref a_by, .ref a_ks])), (a_ps, .inr (7, [.long v_word])), (a_by, .inl (cB, 8192, .inl w_8.1)), (a_ks, .inl (cI, 4, .inl v_kF)), (a_rg, .inl (cI, 16, .inl v_rF))]) hP hD [2] [0, 1, 3, 4, 5, 6, 7] [0, 1, 7, 2, 3, 4, 5, 6] rfl rfl (by decide) (by decide) hk9 hFc hB9 ht9 (by decide) rfl
        clear hB9 hk9 hz9 hvm9 ht9 hFc hPc hDc
        generalize H1 = H at hP hS ⊢
        refine lv_if_eq (tgt := 68) hx hb dX10_storeMany_20 (by decide) (fun c_20 => ?_) (fun c_20 => ?_)
        · skip
          have hg9 : (w_8.1, w_8.2) = g_8 := by rw [← hL9]; simp only [LX10_storeMany_8, ← er_17, if_neg c_10, if_pos c_20]
          subst hg9
          exact K_8_0 _ _ hP hD hS ls (lv_sub hl [0, 1, 2] rfl)
        · skip
          refine lv_aload_n hx hb dX10_storeMany_23 rfl (lv_at hl 0 rfl) ?_
          refine va_get (D := D) (ci := 10) (v := .ref a_mc) (C := RX10) (T := TX10) (N := 2) hx hb hts in_X10 hown hK hP 0 rfl rfl 0 (by decide) q_0 (fun _ h9 => h9) rfl dX10_storeMany_24 ?_
          refine va_getN (D := D) (ci := 5) (v := .ref a_me) (C := RX5) (T := TX5) (N := 4) hx hb hts in_X5 hown hK hP 2 rfl rfl 0 (by decide) n_0 (fun _ h9 => h9) rfl dX10_storeMany_27 ?_
          refine lv_aload_n hx hb dX10_storeMany_30 rfl (lv_at hl 0 rfl) ?_
          refine va_get (D := D) (ci := 10) (v := .ref a_ins) (C := RX10) (T := TX10) (N := 2) hx hb hts in_X10 hown hK hP 0 rfl rfl 1 (by decide) q_1 (fun _ h9 => h9) rfl dX10_storeMany_31 ?_
          refine va_getN (D := D) (ci := 4) (v := .int v_a) (C := RX4) (T := TX4) (N := 8) hx hb hts in_X4 hown hK hP 1 rfl rfl 6 (by decide) n_1 (fun _ h9 => h9) rfl dX10_storeMany_34 ?_
          refine lv_iconst (v := 4) hx hb dX10_storeMany_37 (by decide) ?_
          refine lv_iload_n hx hb dX10_storeMany_38 rfl (lv_at hl 2 rfl) ?_
          refine lv_imul hx hb dX10_storeMany_39 ?_
          refine lv_iadd hx hb dX10_storeMany_40 ?_
          refine lv_aload_n hx hb dX10_storeMany_41 rfl (lv_at hl 0 rfl) ?_
          refine va_get (D := D) (ci := 10) (v := .ref a_mc) (C := RX10) (T := TX10) (N := 2) hx hb hts in_X10 hown hK hP 0 rfl rfl 0 (by decide) q_0 (fun _ h9 => h9) rfl dX10_storeMany_42 ?_
          refine lv_aload_n hx hb dX10_storeMany_45 rfl (lv_at hl 0 rfl) ?_
          refine va_get (D := D) (ci := 10) (v := .ref a_ins) (C := RX10) (T := TX10) (N := 2) hx hb hts in_X10 hown hK hP 0 rfl rfl 1 (by decide) q_1 (fun _ h9 => h9) rfl dX10_storeMany_46 ?_
          refine va_getN (D := D) (ci := 4) (v := .int v_r) (C := RX4) (T := TX4) (N := 8) hx hb hts in_X4 hown hK hP 1 rfl rfl 4 (by decide) n_2 (fun _ h9 => h9) rfl dX10_storeMany_49 ?_
          refine lv_iload_n hx hb dX10_storeMany_52 rfl (lv_at hl 2 rfl) ?_
          refine lv_iadd hx hb dX10_storeMany_53 ?_
          have hPc : va_P D vwCl (wX5_reg cI cB a_mc a_me a_ps a_rg u_2 v_rF) H := hP.sub [2, 7] rfl
          have hDc : va_D A (wX5_reg cI cB a_mc a_me a_ps a_rg u_2 v_rF) := hD.sub [2, 7] (by decide) rfl
          have hFc := va_free (wc := (wX5_reg cI cB a_mc a_me a_ps a_rg u_2 v_rF)) hD hS hA [2, 7] rfl
          refine va_calli (va_runV (As := [.int (v_r + w_8.2)]) (rest := [.int ((v_a + (4 * w_8.2))), .ref a_me]) ⟨hx, hb, hml, hown, hts⟩ (kX5_reg l D cI cB a_mc a_me a_ps a_rg H.size u_2 v_rF (v_r + w_8.2)) (cwV 1 hts (gd_V wd_504 wd_31 wd_32 wd_24 wd_29) rfl rfl rfl hdX5_reg ⟨Nat.le_of_ble_eq_true rfl, Nat.le_of_ble_eq_true rfl⟩) (preV_std (ci := 5) (q0 := 0) hPc hK hDc hNW rfl rfl) rfl rfl hl.1 rfl (lv_room (Nat.le_of_ble_eq_true rfl)) dX10_storeMany_54 ⟨Nat.zero_le _, Nat.zero_le _⟩) hS (fun q _ h => hFc q h) hFc (fun r_54 u_54 t9 H1 locs ht9 hvm9 hw9 hB9 hz9 hk9 hS => ?_)
          have er_54 : r_54 = fX5_reg (v_r + w_8.2) v_rF := hw9
          obtain ⟨hP, hD⟩ := back_std (w1 := (wX5_reg cI cB a_mc a_me a_ps a_rg u_2 v_rF)) (w2 := (wX10_storeMany cI cB a_wo a_ins a_mc a_me a_ps a_by a_ks a_rg v_op v_i v_r v_s v_a v_b u_2 v_word w_8.1 v_kF v_rF)) (wr := [(a_wo, .inr (10, [.ref a_mc, .ref a_ins])), (a_ins, .inr (4, [.ref a_mc, .ref a_me, .int v_op, .int v_i, .int v_r, .int v_s, .int v_a, .int v_b])), (a_me, .inr (6, [.ref a_by, .ref a_ks])), (a_ps, .inr (7, [.long v_word])), (a_by, .inl (cB, 8192, .inl w_8.1)), (a_ks, .inl (cI, 4, .inl v_kF))]) hP hD [2, 7] [0, 1, 3, 4, 5, 6] [0, 1, 6, 2, 3, 4, 5, 7] rfl rfl (by decide) (by decide) hk9 hFc hB9 ht9 (by decide) rfl
          clear hB9 hk9 hz9 hvm9 ht9 hFc hPc hDc
          generalize H1 = H at hP hS ⊢
          refine lv_i2l hx hb dX10_storeMany_57 rfl ?_
          refine lv_iconst (v := 4) hx hb dX10_storeMany_58 (by decide) ?_
          have hPc : va_P D vwCl (wX6_setNumber cI cB a_me a_by a_ks w_8.1) H := hP.sub [3, 5] rfl
          have hDc : va_D A (wX6_setNumber cI cB a_me a_by a_ks w_8.1) := hD.sub [3, 5] (by decide) rfl
          have hFc := va_free (wc := (wX6_setNumber cI cB a_me a_by a_ks w_8.1)) hD hS hA [3, 5] rfl
          refine va_callv (va_runV (As := [.int ((v_a + (4 * w_8.2))), .long (r_54 : Int32).toInt64, .int 4]) (rest := []) ⟨hx, hb, hml, hown, hts⟩ (kX6_setNumber l D cI cB a_me a_by a_ks H.size w_8.1 (v_a + (4 * w_8.2)) ((r_54 : Int32).toInt64) 4) (cwV 3 hts (gd_V wd_541 wd_542 wd_543 wd_78 wd_378) rfl rfl rfl hdX6_setNumber ⟨Nat.le_of_ble_eq_true rfl, Nat.le_of_ble_eq_true rfl⟩) (preV_std (ci := 6) (q0 := 0) hPc hK hDc hNW rfl rfl) rfl rfl hl.1 rfl (lv_room (Nat.le_of_ble_eq_true rfl)) dX10_storeMany_59 ⟨Nat.zero_le _, Nat.zero_le _⟩) hS (fun q _ h => hFc q h) hFc (fun u_59 t9 H1 locs ht9 hvm9 hw9 hB9 hz9 hk9 hS => ?_)
          have eu_59 : u_59 = fX6_setNumber (v_a + (4 * w_8.2)) ((r_54 : Int32).toInt64) 4 w_8.1 := hw9
          obtain ⟨hP, hD⟩ := back_std (w1 := (wX6_setNumber cI cB a_me a_by a_ks u_59)) (w2 := (wX10_storeMany cI cB a_wo a_ins a_mc a_me a_ps a_by a_ks a_rg v_op v_i v_r v_s v_a v_b u_2 v_word u_59 v_kF v_rF)) (wr := [(a_wo, .inr (10, [.ref a_mc, .ref a_ins])), (a_ins, .inr (4, [.ref a_mc, .ref a_me, .int v_op, .int v_i, .int v_r, .int v_s, .int v_a, .int v_b])), (a_mc, .inr (5, [.ref a_me, .ref a_ps, .ref a_rg, .int u_2])), (a_ps, .inr (7, [.long v_word])), (a_ks, .inl (cI, 4, .inl v_kF)), (a_rg, .inl (cI, 16, .inl v_rF))]) hP hD [3, 5] [0, 1, 2, 4, 6, 7] [0, 1, 2, 6, 3, 7, 4, 5] rfl rfl (by decide) (by decide) hk9 hFc hB9 ht9 (by decide) rfl
          clear hB9 hk9 hz9 hvm9 ht9 hFc hPc hDc
          generalize H1 = H at hP hS ⊢
          obtain ⟨x_62, ex_62⟩ : ∃ z : Int32, z = w_8.2 + 1 := ⟨_, rfl⟩
          refine lv_iinc (v := x_62) (lv' := [(2, .int x_62), (0, .ref a_wo), (1, .int r_2)]) hx hb dX10_storeMany_62 hl (k := 2) rfl (by rw [ex_62]; rfl) (by decide) rfl (fun ls hl => ?_)
          refine lv_goto (tgt := 8) hx hb dX10_storeMany_65 (by decide) ?_
          exact ih (u_59, x_62) (by subst ex_62; subst eu_59; subst er_54; subst er_17;  exact Nat.lt_of_lt_of_le (ms_up c_10) (Nat.le_of_lt_succ hm9)) (by rw [← hL9]; subst ex_62; simp only [LX10_storeMany_8, ← er_17, ← er_54, ← eu_59, if_neg c_10, if_neg c_20]) _ _ hP hD hS ls (lv_sub hl [1, 2, 0] rfl)
  exact lp_8 (msU r_2 0 + 1) (v_bF, 0) (Nat.lt_succ_self _) eg_8.symm _ _ hP hD hS ls (lv_sub hl [2, 1, 0] rfl)
theorem hdX10_storeMany : yX10_storeMany.cls = RX10 ∧ yX10_storeMany.cls ≠ "java/lang/invoke/MethodHandle" ∧ yX10_storeMany.cls ≠ "java/lang/invoke/VarHandle" ∧ (parseMethodDescriptor yX10_storeMany.desc).map (fun d => d.parameters.length) = some 0 := by decide +kernel
