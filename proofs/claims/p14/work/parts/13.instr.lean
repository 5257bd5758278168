noncomputable def fX4_demandFirstHalf (x0 : Int32) (v_fault : Int32) (v_word : Int64) (v_kF : (Nat → Int32)) : Int32 :=
  let u_7 := fX5_demand x0 2 0 v_fault v_word v_kF
  let u_16 := fX5_demandAligned x0 2 u_7
  u_16
abbrev wX4_demandFirstHalf (cI cB : ClassId) (a_ins a_mc a_me a_ps a_by a_ks a_rg : Nat) (v_op : Int32) (v_i : Int32) (v_r : Int32) (v_s : Int32) (v_a : Int32) (v_b : Int32) (v_fault : Int32) (v_word : Int64) (v_kF : (Nat → Int32)) : va_W := [(a_ins, .inr (4, [.ref a_mc, .ref a_me, .int v_op, .int v_i, .int v_r, .int v_s, .int v_a, .int v_b])), (a_mc, .inr (5, [.ref a_me, .ref a_ps, .ref a_rg, .int v_fault])), (a_me, .inr (6, [.ref a_by, .ref a_ks])), (a_ps, .inr (7, [.long v_word])), (a_ks, .inl (cI, 4, .inl v_kF))]
abbrev rmX4_demandFirstHalf : Room := { frames := 2, cells := 0, slots := 0, locals := 49 }
abbrev qX4_demandFirstHalf (D : va_G) (cI cB : ClassId) (a_ins a_mc a_me a_ps a_by a_ks a_rg : Nat) (v_op : Int32) (v_i : Int32) (v_r : Int32) (v_s : Int32) (v_a : Int32) (v_b : Int32) (v_fault : Int32) (v_word : Int64) (v_kF : (Nat → Int32)) (x0 : Int32) : (Nat → Prop) → Array Value → State → Outcome → State → Prop := fun A9 => va_Qv (fun (u9 : Int32) => u9 = fX4_demandFirstHalf x0 v_fault v_word v_kF) (fun u9 t9 => atW D (TYS cI cB) A9 (wX4_demandFirstHalf cI cB a_ins a_mc a_me a_ps a_by a_ks a_rg v_op v_i v_r v_s v_a v_b u9 v_word v_kF) t9) A9
set_option maxHeartbeats 4000000 in
set_option maxRecDepth 100000 in
theorem kX4_demandFirstHalf (l : Launch) (D : va_G) (cI cB : ClassId) (a_ins a_mc a_me a_ps a_by a_ks a_rg : Nat) (sz : Nat) (v_op : Int32) (v_i : Int32) (v_r : Int32) (v_s : Int32) (v_a : Int32) (v_b : Int32) (v_fault : Int32) (v_word : Int64) (v_kF : (Nat → Int32)) (x0 : Int32) : MetW l yX4_demandFirstHalf (WK yX4_demandFirstHalf cX4_demandFirstHalf 2 none) rmX4_demandFirstHalf D (TYS cI cB) (wX4_demandFirstHalf cI cB a_ins a_mc a_me a_ps a_by a_ks a_rg v_op v_i v_r v_s v_a v_b v_fault v_word v_kF) sz [.ref a_ins, .int x0] (qX4_demandFirstHalf D cI cB a_ins a_mc a_me a_ps a_by a_ks a_rg v_op v_i v_r v_s v_a v_b v_fault v_word v_kF x0) 0 0 := by
  refine met_std (by decide) rfl (Nat.le_of_ble_eq_true rfl) ?_
  intro p e s m below meth c A ls H hx hb hr hml hown hts hlocks hA hP hK hD hS hNW hl
  have hl : lv_has ls 2 [(0, .ref a_ins), (1, .int x0)] := hl
  have q_0 := hts _ (List.mem_cons_of_mem _ wd_327)
  refine lv_aload_n hx hb dX4_demandFirstHalf_0 rfl (lv_at hl 0 rfl) ?_
  refine va_get (D := D) (ci := 4) (v := .ref a_mc) (C := RX4) (T := TX4) (N := 8) hx hb hts in_X4 hown hK hP 0 rfl rfl 0 (by decide) q_0 (fun _ h9 => h9) rfl dX4_demandFirstHalf_1 ?_
  refine lv_iload_n hx hb dX4_demandFirstHalf_4 rfl (lv_at hl 1 rfl) ?_
  refine lv_iconst (v := 2) hx hb dX4_demandFirstHalf_5 (by decide) ?_
  refine lv_iconst (v := 0) hx hb dX4_demandFirstHalf_6 (by decide) ?_
  have hPc : va_P D vwCl (wX5_demand cI cB a_mc a_me a_ps a_by a_ks a_rg v_fault v_word v_kF) H := hP.sub [1, 2, 3, 4] rfl
  have hDc : va_D A (wX5_demand cI cB a_mc a_me a_ps a_by a_ks a_rg v_fault v_word v_kF) := hD.sub [1, 2, 3, 4] (by decide) rfl
  have hFc := va_free (wc := (wX5_demand cI cB a_mc a_me a_ps a_by a_ks a_rg v_fault v_word v_kF)) hD hS hA [1, 2, 3, 4] rfl
  refine va_callv (va_runV (As := [.int x0, .int 2, .int 0]) (rest := []) ⟨hx, hb, hml, hown, hts⟩ (kX5_demand l D cI cB a_mc a_me a_ps a_by a_ks a_rg H.size v_fault v_word v_kF x0 2 0) (cwV 3 hts (gd_V wd_329 wd_106 wd_107 wd_24 wd_93) rfl rfl rfl hdX5_demand ⟨Nat.le_of_ble_eq_true rfl, Nat.le_of_ble_eq_true rfl⟩) (preV_std (ci := 5) (q0 := 0) hPc hK hDc hNW rfl rfl) rfl rfl hl.1 rfl (lv_room (Nat.le_of_ble_eq_true rfl)) dX4_demandFirstHalf_7 ⟨Nat.zero_le _, Nat.zero_le _⟩) hS (fun q _ h => hFc q h) hFc (fun u_7 t9 H1 locs ht9 hvm9 hw9 hB9 hz9 hk9 hS => ?_)
  have eu_7 : u_7 = fX5_demand x0 2 0 v_fault v_word v_kF := hw9
  obtain ⟨hP, hD⟩ := back_std (w1 := (wX5_demand cI cB a_mc a_me a_ps a_by a_ks a_rg u_7 v_word v_kF)) (w2 := (wX4_demandFirstHalf cI cB a_ins a_mc a_me a_ps a_by a_ks a_rg v_op v_i v_r v_s v_a v_b u_7 v_word v_kF)) (wr := [(a_ins, .inr (4, [.ref a_mc, .ref a_me, .int v_op, .int v_i, .int v_r, .int v_s, .int v_a, .int v_b]))]) hP hD [1, 2, 3, 4] [0] [0, 1, 2, 3, 4] rfl rfl (by decide) (by decide) hk9 hFc hB9 ht9 (by decide) rfl
  clear hB9 hk9 hz9 hvm9 ht9 hFc hPc hDc
  generalize H1 = H at hP hS ⊢
  refine lv_aload_n hx hb dX4_demandFirstHalf_10 rfl (lv_at hl 0 rfl) ?_
  refine va_get (D := D) (ci := 4) (v := .ref a_mc) (C := RX4) (T := TX4) (N := 8) hx hb hts in_X4 hown hK hP 0 rfl rfl 0 (by decide) q_0 (fun _ h9 => h9) rfl dX4_demandFirstHalf_11 ?_
  refine lv_iload_n hx hb dX4_demandFirstHalf_14 rfl (lv_at hl 1 rfl) ?_
  refine lv_iconst (v := 2) hx hb dX4_demandFirstHalf_15 (by decide) ?_
  have hPc : va_P D vwCl (wX5_demandAligned cI cB a_mc a_me a_ps a_rg u_7) H := hP.sub [1] rfl
  have hDc : va_D A (wX5_demandAligned cI cB a_mc a_me a_ps a_rg u_7) := hD.sub [1] (by decide) rfl
  have hFc := va_free (wc := (wX5_demandAligned cI cB a_mc a_me a_ps a_rg u_7)) hD hS hA [1] rfl
  refine va_callv (va_runV (As := [.int x0, .int 2]) (rest := []) ⟨hx, hb, hml, hown, hts⟩ (kX5_demandAligned l D cI cB a_mc a_me a_ps a_rg H.size u_7 x0 2) (cwV 2 hts (gd_V wd_330 wd_62 wd_63 wd_24 wd_56) rfl rfl rfl hdX5_demandAligned ⟨Nat.le_of_ble_eq_true rfl, Nat.le_of_ble_eq_true rfl⟩) (preV_std (ci := 5) (q0 := 0) hPc hK hDc hNW rfl rfl) rfl rfl hl.1 rfl (lv_room (Nat.le_of_ble_eq_true rfl)) dX4_demandFirstHalf_16 ⟨Nat.zero_le _, Nat.zero_le _⟩) hS (fun q _ h => hFc q h) hFc (fun u_16 t9 H1 locs ht9 hvm9 hw9 hB9 hz9 hk9 hS => ?_)
  have eu_16 : u_16 = fX5_demandAligned x0 2 u_7 := hw9
  obtain ⟨hP, hD⟩ := back_std (w1 := (wX5_demandAligned cI cB a_mc a_me a_ps a_rg u_16)) (w2 := (wX4_demandFirstHalf cI cB a_ins a_mc a_me a_ps a_by a_ks a_rg v_op v_i v_r v_s v_a v_b u_16 v_word v_kF)) (wr := [(a_ins, .inr (4, [.ref a_mc, .ref a_me, .int v_op, .int v_i, .int v_r, .int v_s, .int v_a, .int v_b])), (a_me, .inr (6, [.ref a_by, .ref a_ks])), (a_ps, .inr (7, [.long v_word])), (a_ks, .inl (cI, 4, .inl v_kF))]) hP hD [1] [0, 2, 3, 4] [0, 4, 1, 2, 3] rfl rfl (by decide) (by decide) hk9 hFc hB9 ht9 (by decide) rfl
  clear hB9 hk9 hz9 hvm9 ht9 hFc hPc hDc
  generalize H1 = H at hP hS ⊢
  have hf9 : u_16 = fX4_demandFirstHalf x0 v_fault v_word v_kF := by simp only [fX4_demandFirstHalf, ← eu_7, ← eu_16]
  exact W.vret hx hb hr (fun t9 ht9 hW9 => ⟨⟨u_16, rfl, hf9, ⟨by rw [ht9]; exact hP, va_K.moved hW9.alike hK, hD⟩⟩, hS.F ht9⟩) hS.2.2 dX4_demandFirstHalf_19
theorem hdX4_demandFirstHalf : yX4_demandFirstHalf.cls = RX4 ∧ yX4_demandFirstHalf.cls ≠ "java/lang/invoke/MethodHandle" ∧ yX4_demandFirstHalf.cls ≠ "java/lang/invoke/VarHandle" ∧ (parseMethodDescriptor yX4_demandFirstHalf.desc).map (fun d => d.parameters.length) = some 1 := by decide +kernel
noncomputable def fX4_halvesAt (x0 : Int32) (v_bF : (Nat → Int32)) : Int32 :=
  let r_5 := fX6_get x0 v_bF
  let x_11 := (r_5 >>> (6 &&& 31))
  if x_11 = 0 then (1) else (if x_11 = 3 then (3) else (2))
abbrev wX4_halvesAt (cI cB : ClassId) (a_ins a_mc a_me a_by a_ks : Nat) (v_op : Int32) (v_i : Int32) (v_r : Int32) (v_s : Int32) (v_a : Int32) (v_b : Int32) (v_bF : (Nat → Int32)) : va_W := [(a_ins, .inr (4, [.ref a_mc, .ref a_me, .int v_op, .int v_i, .int v_r, .int v_s, .int v_a, .int v_b])), (a_me, .inr (6, [.ref a_by, .ref a_ks])), (a_by, .inl (cB, 8192, .inl v_bF))]
abbrev rmX4_halvesAt : Room := { frames := 1, cells := 0, slots := 0, locals := 21 }
abbrev qX4_halvesAt (D : va_G) (cI cB : ClassId) (a_ins a_mc a_me a_by a_ks : Nat) (v_op : Int32) (v_i : Int32) (v_r : Int32) (v_s : Int32) (v_a : Int32) (v_b : Int32) (v_bF : (Nat → Int32)) (x0 : Int32) : (Nat → Prop) → Array Value → State → Outcome → State → Prop := fun A9 => va_Qi (fun (r9 : Int32) (u9 : Unit) => r9 = fX4_halvesAt x0 v_bF) (fun u9 t9 => atW D (TYS cI cB) A9 (wX4_halvesAt cI cB a_ins a_mc a_me a_by a_ks v_op v_i v_r v_s v_a v_b v_bF) t9) A9
set_option maxHeartbeats 4000000 in
set_option maxRecDepth 100000 in
theorem kX4_halvesAt (l : Launch) (D : va_G) (cI cB : ClassId) (a_ins a_mc a_me a_by a_ks : Nat) (sz : Nat) (v_op : Int32) (v_i : Int32) (v_r : Int32) (v_s : Int32) (v_a : Int32) (v_b : Int32) (v_bF : (Nat → Int32)) (x0 : Int32) : MetW l yX4_halvesAt (WK yX4_halvesAt cX4_halvesAt 3 (some .int)) rmX4_halvesAt D (TYS cI cB) (wX4_halvesAt cI cB a_ins a_mc a_me a_by a_ks v_op v_i v_r v_s v_a v_b v_bF) sz [.ref a_ins, .int x0] (qX4_halvesAt D cI cB a_ins a_mc a_me a_by a_ks v_op v_i v_r v_s v_a v_b v_bF x0) 0 0 := by
  refine met_std (by decide) rfl (Nat.le_of_ble_eq_true rfl) ?_
  intro p e s m below meth c A ls H hx hb hr hml hown hts hlocks hA hP hK hD hS hNW hl
  have hl : lv_has ls 3 [(0, .ref a_ins), (1, .int x0)] := hl
  have q_0 := hts _ (List.mem_cons_of_mem _ wd_328)
  refine lv_aload_n hx hb dX4_halvesAt_0 rfl (lv_at hl 0 rfl) ?_
  refine va_get (D := D) (ci := 4) (v := .ref a_me) (C := RX4) (T := TX4) (N := 8) hx hb hts in_X4 hown hK hP 0 rfl rfl 1 (by decide) q_0 (fun _ h9 => h9) rfl dX4_halvesAt_1 ?_
  refine lv_iload_n hx hb dX4_halvesAt_4 rfl (lv_at hl 1 rfl) ?_
  have hPc : va_P D vwCl (wX6_get cI cB a_me a_by a_ks v_bF) H := hP.sub [1, 2] rfl
  have hDc : va_D A (wX6_get cI cB a_me a_by a_ks v_bF) := hD.sub [1, 2] (by decide) rfl
  have hFc := va_free (wc := (wX6_get cI cB a_me a_by a_ks v_bF)) hD hS hA [1, 2] rfl
  refine va_calli (va_runV (As := [.int x0]) (rest := []) ⟨hx, hb, hml, hown, hts⟩ (kX6_get l D cI cB a_me a_by a_ks H.size v_bF x0) (cwV 1 hts (gd_V wd_333 wd_109 wd_110 wd_78 wd_102) rfl rfl rfl hdX6_get ⟨Nat.le_of_ble_eq_true rfl, Nat.le_of_ble_eq_true rfl⟩) (preV_std (ci := 6) (q0 := 0) hPc hK hDc hNW rfl rfl) rfl rfl hl.1 rfl (lv_room (Nat.le_of_ble_eq_true rfl)) dX4_halvesAt_5 ⟨Nat.zero_le _, Nat.zero_le _⟩) hS (fun q _ h => hFc q h) hFc (fun r_5 u_5 t9 H1 locs ht9 hvm9 hw9 hB9 hz9 hk9 hS => ?_)
  have er_5 : r_5 = fX6_get x0 v_bF := hw9
  obtain ⟨hP, hD⟩ := back_std (w1 := (wX6_get cI cB a_me a_by a_ks v_bF)) (w2 := (wX4_halvesAt cI cB a_ins a_mc a_me a_by a_ks v_op v_i v_r v_s v_a v_b v_bF)) (wr := [(a_ins, .inr (4, [.ref a_mc, .ref a_me, .int v_op, .int v_i, .int v_r, .int v_s, .int v_a, .int v_b]))]) hP hD [1, 2] [0] [0, 1, 2] rfl rfl (by decide) (by decide) hk9 hFc hB9 ht9 (by decide) rfl
  clear hB9 hk9 hz9 hvm9 ht9 hFc hPc hDc
  generalize H1 = H at hP hS ⊢
  refine lv_bipush (v := 6) hx hb dX4_halvesAt_8 (by decide) ?_
  refine lv_ishr hx hb dX4_halvesAt_10 ?_
  refine lv_topi (fun x_11 ex_11 => ?_)
  refine lv_istore_n (lv' := [(2, .int x_11), (0, .ref a_ins), (1, .int x0)]) hx hb dX4_halvesAt_11 rfl hl (by decide) rfl (fun ls hl => ?_)
  refine lv_iload_n hx hb dX4_halvesAt_12 rfl (lv_at hl 0 rfl) ?_
  refine lv_if_ne (tgt := 20) hx hb dX4_halvesAt_13 (by decide) (fun c_13 => ?_) (fun c_13 => ?_)
  · skip
    refine lv_iload_n hx hb dX4_halvesAt_20 rfl (lv_at hl 0 rfl) ?_
    refine lv_iconst (v := 3) hx hb dX4_halvesAt_21 (by decide) ?_
    refine lv_icmp_ne (tgt := 29) hx hb dX4_halvesAt_22 (by decide) (fun c_22 => ?_) (fun c_22 => ?_)
    · skip
      refine lv_iconst (v := 2) hx hb dX4_halvesAt_29 (by decide) ?_
      have hf9 : 2 = fX4_halvesAt x0 v_bF := by subst ex_11; simp only [fX4_halvesAt, ← er_5, if_neg c_13, if_neg c_22]
      exact W.iret hx hb hr (fun t9 ht9 hW9 => ⟨⟨2, (), rfl, hf9, ⟨by rw [ht9]; exact hP, va_K.moved hW9.alike hK, hD⟩⟩, hS.F ht9⟩) hS.2.2 dX4_halvesAt_30
    · skip
      refine lv_iconst (v := 3) hx hb dX4_halvesAt_25 (by decide) ?_
      refine lv_goto (tgt := 30) hx hb dX4_halvesAt_26 (by decide) ?_
      have hf9 : 3 = fX4_halvesAt x0 v_bF := by subst ex_11; simp only [fX4_halvesAt, ← er_5, if_neg c_13, if_pos c_22]
      exact W.iret hx hb hr (fun t9 ht9 hW9 => ⟨⟨3, (), rfl, hf9, ⟨by rw [ht9]; exact hP, va_K.moved hW9.alike hK, hD⟩⟩, hS.F ht9⟩) hS.2.2 dX4_halvesAt_30
  · skip
    refine lv_iconst (v := 1) hx hb dX4_halvesAt_16 (by decide) ?_
    refine lv_goto (tgt := 30) hx hb dX4_halvesAt_17 (by decide) ?_
    have hf9 : 1 = fX4_halvesAt x0 v_bF := by subst ex_11; simp only [fX4_halvesAt, ← er_5, if_pos c_13]
    exact W.iret hx hb hr (fun t9 ht9 hW9 => ⟨⟨1, (), rfl, hf9, ⟨by rw [ht9]; exact hP, va_K.moved hW9.alike hK, hD⟩⟩, hS.F ht9⟩) hS.2.2 dX4_halvesAt_30
theorem hdX4_halvesAt : yX4_halvesAt.cls = RX4 ∧ yX4_halvesAt.cls ≠ "java/lang/invoke/MethodHandle" ∧ yX4_halvesAt.cls ≠ "java/lang/invoke/VarHandle" ∧ (parseMethodDescriptor yX4_halvesAt.desc).map (fun d => d.parameters.length) = some 1 := by decide +kernel
noncomputable def fX4_unlessZero (x0 : Int32) (v_rF : (Nat → Int32)) : Int32 :=
  if x0 = 0 then (0) else (let r_13 := fX5_reg x0 v_rF; r_13)
abbrev wX4_unlessZero (cI cB : ClassId) (a_ins a_mc a_me a_ps a_rg : Nat) (v_op : Int32) (v_i : Int32) (v_r : Int32) (v_s : Int32) (v_a : Int32) (v_b : Int32) (v_fault : Int32) (v_rF : (Nat → Int32)) : va_W := [(a_ins, .inr (4, [.ref a_mc, .ref a_me, .int v_op, .int v_i, .int v_r, .int v_s, .int v_a, .int v_b])), (a_mc, .inr (5, [.ref a_me, .ref a_ps, .ref a_rg, .int v_fault])), (a_rg, .inl (cI, 16, .inl v_rF))]
abbrev rmX4_unlessZero : Room := { frames := 1, cells := 0, slots := 0, locals := 21 }
abbrev qX4_unlessZero (D : va_G) (cI cB : ClassId) (a_ins a_mc a_me a_ps a_rg : Nat) (v_op : Int32) (v_i : Int32) (v_r : Int32) (v_s : Int32) (v_a : Int32) (v_b : Int32) (v_fault : Int32) (v_rF : (Nat → Int32)) (x0 : Int32) : (Nat → Prop) → Array Value → State → Outcome → State → Prop := fun A9 => va_Qi (fun (r9 : Int32) (u9 : Unit) => r9 = fX4_unlessZero x0 v_rF) (fun u9 t9 => atW D (TYS cI cB) A9 (wX4_unlessZero cI cB a_ins a_mc a_me a_ps a_rg v_op v_i v_r v_s v_a v_b v_fault v_rF) t9) A9
set_option maxHeartbeats 4000000 in
set_option maxRecDepth 100000 in
theorem kX4_unlessZero (l : Launch) (D : va_G) (cI cB : ClassId) (a_ins a_mc a_me a_ps a_rg : Nat) (sz : Nat) (v_op : Int32) (v_i : Int32) (v_r : Int32) (v_s : Int32) (v_a : Int32) (v_b : Int32) (v_fault : Int32) (v_rF : (Nat → Int32)) (x0 : Int32) : MetW l yX4_unlessZero (WK yX4_unlessZero cX4_unlessZero 2 (some .int)) rmX4_unlessZero D (TYS cI cB) (wX4_unlessZero cI cB a_ins a_mc a_me a_ps a_rg v_op v_i v_r v_s v_a v_b v_fault v_rF) sz [.ref a_ins, .int x0] (qX4_unlessZero D cI cB a_ins a_mc a_me a_ps a_rg v_op v_i v_r v_s v_a v_b v_fault v_rF x0) 0 0 := by
  refine met_std (by decide) rfl (Nat.le_of_ble_eq_true rfl) ?_
  intro p e s m below meth c A ls H hx hb hr hml hown hts hlocks hA hP hK hD hS hNW hl
  have hl : lv_has ls 2 [(0, .ref a_ins), (1, .int x0)] := hl
  have q_0 := hts _ (List.mem_cons_of_mem _ wd_327)
  refine lv_iload_n hx hb dX4_unlessZero_0 rfl (lv_at hl 1 rfl) ?_
  refine lv_if_ne (tgt := 8) hx hb dX4_unlessZero_1 (by decide) (fun c_1 => ?_) (fun c_1 => ?_)
  · skip
    refine lv_aload_n hx hb dX4_unlessZero_8 rfl (lv_at hl 0 rfl) ?_
    refine va_get (D := D) (ci := 4) (v := .ref a_mc) (C := RX4) (T := TX4) (N := 8) hx hb hts in_X4 hown hK hP 0 rfl rfl 0 (by decide) q_0 (fun _ h9 => h9) rfl dX4_unlessZero_9 ?_
    refine lv_iload_n hx hb dX4_unlessZero_12 rfl (lv_at hl 1 rfl) ?_
    have hPc : va_P D vwCl (wX5_reg cI cB a_mc a_me a_ps a_rg v_fault v_rF) H := hP.sub [1, 2] rfl
    have hDc : va_D A (wX5_reg cI cB a_mc a_me a_ps a_rg v_fault v_rF) := hD.sub [1, 2] (by decide) rfl
    have hFc := va_free (wc := (wX5_reg cI cB a_mc a_me a_ps a_rg v_fault v_rF)) hD hS hA [1, 2] rfl
    refine va_calli (va_runV (As := [.int x0]) (rest := []) ⟨hx, hb, hml, hown, hts⟩ (kX5_reg l D cI cB a_mc a_me a_ps a_rg H.size v_fault v_rF x0) (cwV 1 hts (gd_V wd_336 wd_31 wd_32 wd_24 wd_29) rfl rfl rfl hdX5_reg ⟨Nat.le_of_ble_eq_true rfl, Nat.le_of_ble_eq_true rfl⟩) (preV_std (ci := 5) (q0 := 0) hPc hK hDc hNW rfl rfl) rfl rfl hl.1 rfl (lv_room (Nat.le_of_ble_eq_true rfl)) dX4_unlessZero_13 ⟨Nat.zero_le _, Nat.zero_le _⟩) hS (fun q _ h => hFc q h) hFc (fun r_13 u_13 t9 H1 locs ht9 hvm9 hw9 hB9 hz9 hk9 hS => ?_)
    have er_13 : r_13 = fX5_reg x0 v_rF := hw9
    obtain ⟨hP, hD⟩ := back_std (w1 := (wX5_reg cI cB a_mc a_me a_ps a_rg v_fault v_rF)) (w2 := (wX4_unlessZero cI cB a_ins a_mc a_me a_ps a_rg v_op v_i v_r v_s v_a v_b v_fault v_rF)) (wr := [(a_ins, .inr (4, [.ref a_mc, .ref a_me, .int v_op, .int v_i, .int v_r, .int v_s, .int v_a, .int v_b]))]) hP hD [1, 2] [0] [0, 1, 2] rfl rfl (by decide) (by decide) hk9 hFc hB9 ht9 (by decide) rfl
    clear hB9 hk9 hz9 hvm9 ht9 hFc hPc hDc
    generalize H1 = H at hP hS ⊢
    have hf9 : r_13 = fX4_unlessZero x0 v_rF := by simp only [fX4_unlessZero, ← er_13, if_neg c_1]
    exact W.iret hx hb hr (fun t9 ht9 hW9 => ⟨⟨r_13, (), rfl, hf9, ⟨by rw [ht9]; exact hP, va_K.moved hW9.alike hK, hD⟩⟩, hS.F ht9⟩) hS.2.2 dX4_unlessZero_16
  · skip
    refine lv_iconst (v := 0) hx hb dX4_unlessZero_4 (by decide) ?_
    refine lv_goto (tgt := 16) hx hb dX4_unlessZero_5 (by decide) ?_
    have hf9 : 0 = fX4_unlessZero x0 v_rF := by simp only [fX4_unlessZero, if_pos c_1]
    exact W.iret hx hb hr (fun t9 ht9 hW9 => ⟨⟨0, (), rfl, hf9, ⟨by rw [ht9]; exact hP, va_K.moved hW9.alike hK, hD⟩⟩, hS.F ht9⟩) hS.2.2 dX4_unlessZero_16
theorem hdX4_unlessZero : yX4_unlessZero.cls = RX4 ∧ yX4_unlessZero.cls ≠ "java/lang/invoke/MethodHandle" ∧ yX4_unlessZero.cls ≠ "java/lang/invoke/VarHandle" ∧ (parseMethodDescriptor yX4_unlessZero.desc).map (fun d => d.parameters.length) = some 1 := by decide +kernel
noncomputable def fX4_baseAndDisplacement (x0 : Int32) (v_bF : (Nat → Int32)) (v_rF : (Nat → Int32)) : Int32 :=
  let r_5 := fX6_half x0 v_bF
  let r_22 := fX4_unlessZero ((r_5 >>> (12 &&& 31)) &&& 15) v_rF
  (((r_5 &&& 4095) + r_22) &&& 16777215)
abbrev wX4_baseAndDisplacement (cI cB : ClassId) (a_ins a_mc a_me a_ps a_by a_ks a_rg : Nat) (v_op : Int32) (v_i : Int32) (v_r : Int32) (v_s : Int32) (v_a : Int32) (v_b : Int32) (v_fault : Int32) (v_bF : (Nat → Int32)) (v_rF : (Nat → Int32)) : va_W := [(a_ins, .inr (4, [.ref a_mc, .ref a_me, .int v_op, .int v_i, .int v_r, .int v_s, .int v_a, .int v_b])), (a_mc, .inr (5, [.ref a_me, .ref a_ps, .ref a_rg, .int v_fault])), (a_me, .inr (6, [.ref a_by, .ref a_ks])), (a_by, .inl (cB, 8192, .inl v_bF)), (a_rg, .inl (cI, 16, .inl v_rF))]
abbrev rmX4_baseAndDisplacement : Room := { frames := 2, cells := 0, slots := 0, locals := 42 }
abbrev qX4_baseAndDisplacement (D : va_G) (cI cB : ClassId) (a_ins a_mc a_me a_ps a_by a_ks a_rg : Nat) (v_op : Int32) (v_i : Int32) (v_r : Int32) (v_s : Int32) (v_a : Int32) (v_b : Int32) (v_fault : Int32) (v_bF : (Nat → Int32)) (v_rF : (Nat → Int32)) (x0 : Int32) : (Nat → Prop) → Array Value → State → Outcome → State → Prop := fun A9 => va_Qi (fun (r9 : Int32) (u9 : Unit) => r9 = fX4_baseAndDisplacement x0 v_bF v_rF) (fun u9 t9 => atW D (TYS cI cB) A9 (wX4_baseAndDisplacement cI cB a_ins a_mc a_me a_ps a_by a_ks a_rg v_op v_i v_r v_s v_a v_b v_fault v_bF v_rF) t9) A9
set_option maxHeartbeats 4000000 in
set_option maxRecDepth 100000 in
theorem kX4_baseAndDisplacement (l : Launch) (D : va_G) (cI cB : ClassId) (a_ins a_mc a_me a_ps a_by a_ks a_rg : Nat) (sz : Nat) (v_op : Int32) (v_i : Int32) (v_r : Int32) (v_s : Int32) (v_a : Int32) (v_b : Int32) (v_fault : Int32) (v_bF : (Nat → Int32)) (v_rF : (Nat → Int32)) (x0 : Int32) : MetW l yX4_baseAndDisplacement (WK yX4_baseAndDisplacement cX4_baseAndDisplacement 3 (some .int)) rmX4_baseAndDisplacement D (TYS cI cB) (wX4_baseAndDisplacement cI cB a_ins a_mc a_me a_ps a_by a_ks a_rg v_op v_i v_r v_s v_a v_b v_fault v_bF v_rF) sz [.ref a_ins, .int x0] (qX4_baseAndDisplacement D cI cB a_ins a_mc a_me a_ps a_by a_ks a_rg v_op v_i v_r v_s v_a v_b v_fault v_bF v_rF x0) 0 0 := by
  refine met_std (by decide) rfl (Nat.le_of_ble_eq_true rfl) ?_
  intro p e s m below meth c A ls H hx hb hr hml hown hts hlocks hA hP hK hD hS hNW hl
  have hl : lv_has ls 3 [(0, .ref a_ins), (1, .int x0)] := hl
  have q_0 := hts _ (List.mem_cons_of_mem _ wd_328)
  have q_1 := hts _ (List.mem_cons_of_mem _ wd_338)
  refine lv_aload_n hx hb dX4_baseAndDisplacement_0 rfl (lv_at hl 0 rfl) ?_
  refine va_get (D := D) (ci := 4) (v := .ref a_me) (C := RX4) (T := TX4) (N := 8) hx hb hts in_X4 hown hK hP 0 rfl rfl 1 (by decide) q_0 (fun _ h9 => h9) rfl dX4_baseAndDisplacement_1 ?_
  refine lv_iload_n hx hb dX4_baseAndDisplacement_4 rfl (lv_at hl 1 rfl) ?_
  have hPc : va_P D vwCl (wX6_half cI cB a_me a_by a_ks v_bF) H := hP.sub [2, 3] rfl
  have hDc : va_D A (wX6_half cI cB a_me a_by a_ks v_bF) := hD.sub [2, 3] (by decide) rfl
  have hFc := va_free (wc := (wX6_half cI cB a_me a_by a_ks v_bF)) hD hS hA [2, 3] rfl
  refine va_calli (va_runV (As := [.int x0]) (rest := []) ⟨hx, hb, hml, hown, hts⟩ (kX6_half l D cI cB a_me a_by a_ks H.size v_bF x0) (cwV 1 hts (gd_V wd_339 wd_340 wd_341 wd_78 wd_334) rfl rfl rfl hdX6_half ⟨Nat.le_of_ble_eq_true rfl, Nat.le_of_ble_eq_true rfl⟩) (preV_std (ci := 6) (q0 := 0) hPc hK hDc hNW rfl rfl) rfl rfl hl.1 rfl (lv_room (Nat.le_of_ble_eq_true rfl)) dX4_baseAndDisplacement_5 ⟨Nat.zero_le _, Nat.zero_le _⟩) hS (fun q _ h => hFc q h) hFc (fun r_5 u_5 t9 H1 locs ht9 hvm9 hw9 hB9 hz9 hk9 hS => ?_)
  have er_5 : r_5 = fX6_half x0 v_bF := hw9
  obtain ⟨hP, hD⟩ := back_std (w1 := (wX6_half cI cB a_me a_by a_ks v_bF)) (w2 := (wX4_baseAndDisplacement cI cB a_ins a_mc a_me a_ps a_by a_ks a_rg v_op v_i v_r v_s v_a v_b v_fault v_bF v_rF)) (wr := [(a_ins, .inr (4, [.ref a_mc, .ref a_me, .int v_op, .int v_i, .int v_r, .int v_s, .int v_a, .int v_b])), (a_mc, .inr (5, [.ref a_me, .ref a_ps, .ref a_rg, .int v_fault])), (a_rg, .inl (cI, 16, .inl v_rF))]) hP hD [2, 3] [0, 1, 4] [0, 1, 3, 4, 2] rfl rfl (by decide) (by decide) hk9 hFc hB9 ht9 (by decide) rfl
  clear hB9 hk9 hz9 hvm9 ht9 hFc hPc hDc
  generalize H1 = H at hP hS ⊢
  refine lv_istore_n (lv' := [(2, .int r_5), (0, .ref a_ins), (1, .int x0)]) hx hb dX4_baseAndDisplacement_8 rfl hl (by decide) rfl (fun ls hl => ?_)
  refine lv_iload_n hx hb dX4_baseAndDisplacement_9 rfl (lv_at hl 0 rfl) ?_
  refine lv_sipush (v := 4095) hx hb dX4_baseAndDisplacement_10 (by decide) ?_
  refine lv_iand hx hb dX4_baseAndDisplacement_13 ?_
  refine lv_aload_n hx hb dX4_baseAndDisplacement_14 rfl (lv_at hl 1 rfl) ?_
  refine lv_iload_n hx hb dX4_baseAndDisplacement_15 rfl (lv_at hl 0 rfl) ?_
  refine lv_bipush (v := 12) hx hb dX4_baseAndDisplacement_16 (by decide) ?_
  refine lv_ishr hx hb dX4_baseAndDisplacement_18 ?_
  refine lv_bipush (v := 15) hx hb dX4_baseAndDisplacement_19 (by decide) ?_
  refine lv_iand hx hb dX4_baseAndDisplacement_21 ?_
  have hPc : va_P D vwCl (wX4_unlessZero cI cB a_ins a_mc a_me a_ps a_rg v_op v_i v_r v_s v_a v_b v_fault v_rF) H := hP.sub [0, 1, 4] rfl
  have hDc : va_D A (wX4_unlessZero cI cB a_ins a_mc a_me a_ps a_rg v_op v_i v_r v_s v_a v_b v_fault v_rF) := hD.sub [0, 1, 4] (by decide) rfl
  have hFc := va_free (wc := (wX4_unlessZero cI cB a_ins a_mc a_me a_ps a_rg v_op v_i v_r v_s v_a v_b v_fault v_rF)) hD hS hA [0, 1, 4] rfl
  refine va_calli (va_runV (As := [.int (((r_5 >>> (12 &&& 31)) &&& 15))]) (rest := [.int (r_5 &&& 4095)]) ⟨hx, hb, hml, hown, hts⟩ (kX4_unlessZero l D cI cB a_ins a_mc a_me a_ps a_rg H.size v_op v_i v_r v_s v_a v_b v_fault v_rF ((r_5 >>> (12 &&& 31)) &&& 15)) (cwV 1 hts (gd_V wd_342 wd_343 wd_344 wd_345 wd_335) rfl rfl rfl hdX4_unlessZero ⟨Nat.le_of_ble_eq_true rfl, Nat.le_of_ble_eq_true rfl⟩) (preV_std (ci := 4) (q0 := 0) hPc hK hDc hNW rfl rfl) rfl rfl hl.1 rfl (lv_room (Nat.le_of_ble_eq_true rfl)) dX4_baseAndDisplacement_22 ⟨Nat.zero_le _, Nat.zero_le _⟩) hS (fun q _ h => hFc q h) hFc (fun r_22 u_22 t9 H1 locs ht9 hvm9 hw9 hB9 hz9 hk9 hS => ?_)
  have er_22 : r_22 = fX4_unlessZero ((r_5 >>> (12 &&& 31)) &&& 15) v_rF := hw9
  obtain ⟨hP, hD⟩ := back_std (w1 := (wX4_unlessZero cI cB a_ins a_mc a_me a_ps a_rg v_op v_i v_r v_s v_a v_b v_fault v_rF)) (w2 := (wX4_baseAndDisplacement cI cB a_ins a_mc a_me a_ps a_by a_ks a_rg v_op v_i v_r v_s v_a v_b v_fault v_bF v_rF)) (wr := [(a_me, .inr (6, [.ref a_by, .ref a_ks])), (a_by, .inl (cB, 8192, .inl v_bF))]) hP hD [0, 1, 4] [2, 3] [2, 3, 0, 1, 4] rfl rfl (by decide) (by decide) hk9 hFc hB9 ht9 (by decide) rfl
  clear hB9 hk9 hz9 hvm9 ht9 hFc hPc hDc
  generalize H1 = H at hP hS ⊢
  refine lv_iadd hx hb dX4_baseAndDisplacement_25 ?_
  refine lv_ldc (v := 16777215) hx hb hown q_1 dX4_baseAndDisplacement_26 ?_
  refine lv_iand hx hb dX4_baseAndDisplacement_28 ?_
  have hf9 : (((r_5 &&& 4095) + r_22) &&& 16777215) = fX4_baseAndDisplacement x0 v_bF v_rF := by simp only [fX4_baseAndDisplacement, ← er_5, ← er_22]
  exact W.iret hx hb hr (fun t9 ht9 hW9 => ⟨⟨(((r_5 &&& 4095) + r_22) &&& 16777215), (), rfl, hf9, ⟨by rw [ht9]; exact hP, va_K.moved hW9.alike hK, hD⟩⟩, hS.F ht9⟩) hS.2.2 dX4_baseAndDisplacement_29
theorem hdX4_baseAndDisplacement : yX4_baseAndDisplacement.cls = RX4 ∧ yX4_baseAndDisplacement.cls ≠ "java/lang/invoke/MethodHandle" ∧ yX4_baseAndDisplacement.cls ≠ "java/lang/invoke/VarHandle" ∧ (parseMethodDescriptor yX4_baseAndDisplacement.desc).map (fun d => d.parameters.length) = some 1 := by decide +kernel
noncomputable def fX4_take (x0 : Int32) (x1 : Int32) (v_op : Int32) (v_i : Int32) (v_r : Int32) (v_s : Int32) (v_a : Int32) (v_b : Int32) (v_fault : Int32) (v_word : Int64) (v_bF : (Nat → Int32)) (v_kF : (Nat → Int32)) (v_rF : (Nat → Int32)) : (Int32 × Int32 × Int32 × Int32 × Int32 × Int32 × Int32) :=
  let r_2 := fX4_halvesAt x0 v_bF
  let u_15 := fX5_demand x0 (2 * r_2) 0 v_fault v_word v_kF
  let r_24 := fX6_get x0 v_bF
  let r_38 := fX6_get (x0 + 1) v_bF
  let x_43 := (r_38 ||| x1)
  let x_53 := (x_43 >>> (4 &&& 31))
  let x_64 := (x_43 &&& 15)
  let m_84 : Int32 := (if r_2 ≤ 1 then (0) else (let r_77 := fX4_baseAndDisplacement (x0 + 2) v_bF v_rF; r_77))
  let m_104 : Int32 := (if r_2 ≤ 2 then (0) else (let r_97 := fX4_baseAndDisplacement (x0 + 4) v_bF v_rF; r_97))
  if r_24 < 64 then ((r_24, x_43, x_53, x_64, m_84, m_104, u_15)) else (if 95 < r_24 then ((r_24, x_43, x_53, x_64, m_84, m_104, u_15)) else (let r_135 := fX4_unlessZero x_64 v_rF; let x_142 := ((m_84 + r_135) &&& 16777215); (r_24, x_43, x_53, x_64, x_142, m_104, u_15)))
abbrev wX4_take (cI cB : ClassId) (a_ins a_mc a_me a_ps a_by a_ks a_rg : Nat) (v_op : Int32) (v_i : Int32) (v_r : Int32) (v_s : Int32) (v_a : Int32) (v_b : Int32) (v_fault : Int32) (v_word : Int64) (v_bF : (Nat → Int32)) (v_kF : (Nat → Int32)) (v_rF : (Nat → Int32)) : va_W := [(a_ins, .inr (4, [.ref a_mc, .ref a_me, .int v_op, .int v_i, .int v_r, .int v_s, .int v_a, .int v_b])), (a_mc, .inr (5, [.ref a_me, .ref a_ps, .ref a_rg, .int v_fault])), (a_me, .inr (6, [.ref a_by, .ref a_ks])), (a_ps, .inr (7, [.long v_word])), (a_by, .inl (cB, 8192, .inl v_bF)), (a_ks, .inl (cI, 4, .inl v_kF)), (a_rg, .inl (cI, 16, .inl v_rF))]
abbrev rmX4_take : Room := { frames := 3, cells := 0, slots := 0, locals := 64 }
abbrev qX4_take (D : va_G) (cI cB : ClassId) (a_ins a_mc a_me a_ps a_by a_ks a_rg : Nat) (v_op : Int32) (v_i : Int32) (v_r : Int32) (v_s : Int32) (v_a : Int32) (v_b : Int32) (v_fault : Int32) (v_word : Int64) (v_bF : (Nat → Int32)) (v_kF : (Nat → Int32)) (v_rF : (Nat → Int32)) (x0 : Int32) (x1 : Int32) : (Nat → Prop) → Array Value → State → Outcome → State → Prop := fun A9 => va_Qv (fun (u9 : (Int32 × Int32 × Int32 × Int32 × Int32 × Int32 × Int32)) => u9 = fX4_take x0 x1 v_op v_i v_r v_s v_a v_b v_fault v_word v_bF v_kF v_rF) (fun u9 t9 => atW D (TYS cI cB) A9 (wX4_take cI cB a_ins a_mc a_me a_ps a_by a_ks a_rg u9.1 u9.2.1 u9.2.2.1 u9.2.2.2.1 u9.2.2.2.2.1 u9.2.2.2.2.2.1 u9.2.2.2.2.2.2 v_word v_bF v_kF v_rF) t9) A9
set_option maxHeartbeats 4000000 in
set_option maxRecDepth 100000 in
theorem kX4_take (l : Launch) (D : va_G) (cI cB : ClassId) (a_ins a_mc a_me a_ps a_by a_ks a_rg : Nat) (sz : Nat) (v_op : Int32) (v_i : Int32) (v_r : Int32) (v_s : Int32) (v_a : Int32) (v_b : Int32) (v_fault : Int32) (v_word : Int64) (v_bF : (Nat → Int32)) (v_kF : (Nat → Int32)) (v_rF : (Nat → Int32)) (x0 : Int32) (x1 : Int32) : MetW l yX4_take (WK yX4_take cX4_take 4 none) rmX4_take D (TYS cI cB) (wX4_take cI cB a_ins a_mc a_me a_ps a_by a_ks a_rg v_op v_i v_r v_s v_a v_b v_fault v_word v_bF v_kF v_rF) sz [.ref a_ins, .int x0, .int x1] (qX4_take D cI cB a_ins a_mc a_me a_ps a_by a_ks a_rg v_op v_i v_r v_s v_a v_b v_fault v_word v_bF v_kF v_rF x0 x1) 0 0 := by
  refine met_std (by decide) rfl (Nat.le_of_ble_eq_true rfl) ?_
  intro p e s m below meth c A ls H hx hb hr hml hown hts hlocks hA hP hK hD hS hNW hl
  have hl : lv_has ls 4 [(0, .ref a_ins), (1, .int x0), (2, .int x1)] := hl
  have q_0 := hts _ (List.mem_cons_of_mem _ wd_327)
  have q_1 := hts _ (List.mem_cons_of_mem _ wd_328)
  have q_2 := hts _ (List.mem_cons_of_mem _ wd_346)
  have q_3 := hts _ (List.mem_cons_of_mem _ wd_347)
  have q_4 := hts _ (List.mem_cons_of_mem _ wd_348)
  have q_5 := hts _ (List.mem_cons_of_mem _ wd_349)
  have q_6 := hts _ (List.mem_cons_of_mem _ wd_350)
  have q_7 := hts _ (List.mem_cons_of_mem _ wd_351)
  have q_8 := hts _ (List.mem_cons_of_mem _ wd_338)
  refine lv_aload_n hx hb dX4_take_0 rfl (lv_at hl 0 rfl) ?_
  refine lv_iload_n hx hb dX4_take_1 rfl (lv_at hl 1 rfl) ?_
  have hPc : va_P D vwCl (wX4_halvesAt cI cB a_ins a_mc a_me a_by a_ks v_op v_i v_r v_s v_a v_b v_bF) H := hP.sub [0, 2, 4] rfl
  have hDc : va_D A (wX4_halvesAt cI cB a_ins a_mc a_me a_by a_ks v_op v_i v_r v_s v_a v_b v_bF) := hD.sub [0, 2, 4] (by decide) rfl
  have hFc := va_free (wc := (wX4_halvesAt cI cB a_ins a_mc a_me a_by a_ks v_op v_i v_r v_s v_a v_b v_bF)) hD hS hA [0, 2, 4] rfl
  refine va_calli (va_runV (As := [.int x0]) (rest := []) ⟨hx, hb, hml, hown, hts⟩ (kX4_halvesAt l D cI cB a_ins a_mc a_me a_by a_ks H.size v_op v_i v_r v_s v_a v_b v_bF x0) (cwV 1 hts (gd_V wd_352 wd_353 wd_354 wd_345 wd_332) rfl rfl rfl hdX4_halvesAt ⟨Nat.le_of_ble_eq_true rfl, Nat.le_of_ble_eq_true rfl⟩) (preV_std (ci := 4) (q0 := 0) hPc hK hDc hNW rfl rfl) rfl rfl hl.1 rfl (lv_room (Nat.le_of_ble_eq_true rfl)) dX4_take_2 ⟨Nat.zero_le _, Nat.zero_le _⟩) hS (fun q _ h => hFc q h) hFc (fun r_2 u_2 t9 H1 locs ht9 hvm9 hw9 hB9 hz9 hk9 hS => ?_)
  have er_2 : r_2 = fX4_halvesAt x0 v_bF := hw9
  obtain ⟨hP, hD⟩ := back_std (w1 := (wX4_halvesAt cI cB a_ins a_mc a_me a_by a_ks v_op v_i v_r v_s v_a v_b v_bF)) (w2 := (wX4_take cI cB a_ins a_mc a_me a_ps a_by a_ks a_rg v_op v_i v_r v_s v_a v_b v_fault v_word v_bF v_kF v_rF)) (wr := [(a_mc, .inr (5, [.ref a_me, .ref a_ps, .ref a_rg, .int v_fault])), (a_ps, .inr (7, [.long v_word])), (a_ks, .inl (cI, 4, .inl v_kF)), (a_rg, .inl (cI, 16, .inl v_rF))]) hP hD [0, 2, 4] [1, 3, 5, 6] [4, 0, 5, 1, 6, 2, 3] rfl rfl (by decide) (by decide) hk9 hFc hB9 ht9 (by decide) rfl
  clear hB9 hk9 hz9 hvm9 ht9 hFc hPc hDc
  generalize H1 = H at hP hS ⊢
  refine lv_istore_n (lv' := [(3, .int r_2), (0, .ref a_ins), (1, .int x0), (2, .int x1)]) hx hb dX4_take_5 rfl hl (by decide) rfl (fun ls hl => ?_)
  refine lv_aload_n hx hb dX4_take_6 rfl (lv_at hl 1 rfl) ?_
  refine va_get (D := D) (ci := 4) (v := .ref a_mc) (C := RX4) (T := TX4) (N := 8) hx hb hts in_X4 hown hK hP 0 rfl rfl 0 (by decide) q_0 (fun _ h9 => h9) rfl dX4_take_7 ?_
  refine lv_iload_n hx hb dX4_take_10 rfl (lv_at hl 2 rfl) ?_
  refine lv_iconst (v := 2) hx hb dX4_take_11 (by decide) ?_
  refine lv_iload_n hx hb dX4_take_12 rfl (lv_at hl 0 rfl) ?_
  refine lv_imul hx hb dX4_take_13 ?_
  refine lv_iconst (v := 0) hx hb dX4_take_14 (by decide) ?_
  have hPc : va_P D vwCl (wX5_demand cI cB a_mc a_me a_ps a_by a_ks a_rg v_fault v_word v_kF) H := hP.sub [1, 2, 3, 5] rfl
  have hDc : va_D A (wX5_demand cI cB a_mc a_me a_ps a_by a_ks a_rg v_fault v_word v_kF) := hD.sub [1, 2, 3, 5] (by decide) rfl
  have hFc := va_free (wc := (wX5_demand cI cB a_mc a_me a_ps a_by a_ks a_rg v_fault v_word v_kF)) hD hS hA [1, 2, 3, 5] rfl
  refine va_callv (va_runV (As := [.int x0, .int (2 * r_2), .int 0]) (rest := []) ⟨hx, hb, hml, hown, hts⟩ (kX5_demand l D cI cB a_mc a_me a_ps a_by a_ks a_rg H.size v_fault v_word v_kF x0 (2 * r_2) 0) (cwV 3 hts (gd_V wd_329 wd_106 wd_107 wd_24 wd_93) rfl rfl rfl hdX5_demand ⟨Nat.le_of_ble_eq_true rfl, Nat.le_of_ble_eq_true rfl⟩) (preV_std (ci := 5) (q0 := 0) hPc hK hDc hNW rfl rfl) rfl rfl hl.1 rfl (lv_room (Nat.le_of_ble_eq_true rfl)) dX4_take_15 ⟨Nat.zero_le _, Nat.zero_le _⟩) hS (fun q _ h => hFc q h) hFc (fun u_15 t9 H1 locs ht9 hvm9 hw9 hB9 hz9 hk9 hS => ?_)
  have eu_15 : u_15 = fX5_demand x0 (2 * r_2) 0 v_fault v_word v_kF := hw9
  obtain ⟨hP, hD⟩ := back_std (w1 := (wX5_demand cI cB a_mc a_me a_ps a_by a_ks a_rg u_15 v_word v_kF)) (w2 := (wX4_take cI cB a_ins a_mc a_me a_ps a_by a_ks a_rg v_op v_i v_r v_s v_a v_b u_15 v_word v_bF v_kF v_rF)) (wr := [(a_ins, .inr (4, [.ref a_mc, .ref a_me, .int v_op, .int v_i, .int v_r, .int v_s, .int v_a, .int v_b])), (a_by, .inl (cB, 8192, .inl v_bF)), (a_rg, .inl (cI, 16, .inl v_rF))]) hP hD [1, 2, 3, 5] [0, 4, 6] [0, 3, 4, 5, 1, 6, 2] rfl rfl (by decide) (by decide) hk9 hFc hB9 ht9 (by decide) rfl
  clear hB9 hk9 hz9 hvm9 ht9 hFc hPc hDc
  generalize H1 = H at hP hS ⊢
  refine lv_aload_n hx hb dX4_take_18 rfl (lv_at hl 1 rfl) ?_
  refine lv_aload_n hx hb dX4_take_19 rfl (lv_at hl 1 rfl) ?_
  refine va_get (D := D) (ci := 4) (v := .ref a_me) (C := RX4) (T := TX4) (N := 8) hx hb hts in_X4 hown hK hP 0 rfl rfl 1 (by decide) q_1 (fun _ h9 => h9) rfl dX4_take_20 ?_
  refine lv_iload_n hx hb dX4_take_23 rfl (lv_at hl 2 rfl) ?_
  have hPc : va_P D vwCl (wX6_get cI cB a_me a_by a_ks v_bF) H := hP.sub [2, 4] rfl
  have hDc : va_D A (wX6_get cI cB a_me a_by a_ks v_bF) := hD.sub [2, 4] (by decide) rfl
  have hFc := va_free (wc := (wX6_get cI cB a_me a_by a_ks v_bF)) hD hS hA [2, 4] rfl
  refine va_calli (va_runV (As := [.int x0]) (rest := [.ref a_ins]) ⟨hx, hb, hml, hown, hts⟩ (kX6_get l D cI cB a_me a_by a_ks H.size v_bF x0) (cwV 1 hts (gd_V wd_333 wd_109 wd_110 wd_78 wd_102) rfl rfl rfl hdX6_get ⟨Nat.le_of_ble_eq_true rfl, Nat.le_of_ble_eq_true rfl⟩) (preV_std (ci := 6) (q0 := 0) hPc hK hDc hNW rfl rfl) rfl rfl hl.1 rfl (lv_room (Nat.le_of_ble_eq_true rfl)) dX4_take_24 ⟨Nat.zero_le _, Nat.zero_le _⟩) hS (fun q _ h => hFc q h) hFc (fun r_24 u_24 t9 H1 locs ht9 hvm9 hw9 hB9 hz9 hk9 hS => ?_)
  have er_24 : r_24 = fX6_get x0 v_bF := hw9
  obtain ⟨hP, hD⟩ := back_std (w1 := (wX6_get cI cB a_me a_by a_ks v_bF)) (w2 := (wX4_take cI cB a_ins a_mc a_me a_ps a_by a_ks a_rg v_op v_i v_r v_s v_a v_b u_15 v_word v_bF v_kF v_rF)) (wr := [(a_ins, .inr (4, [.ref a_mc, .ref a_me, .int v_op, .int v_i, .int v_r, .int v_s, .int v_a, .int v_b])), (a_mc, .inr (5, [.ref a_me, .ref a_ps, .ref a_rg, .int u_15])), (a_ps, .inr (7, [.long v_word])), (a_ks, .inl (cI, 4, .inl v_kF)), (a_rg, .inl (cI, 16, .inl v_rF))]) hP hD [2, 4] [0, 1, 3, 5, 6] [0, 1, 5, 2, 6, 3, 4] rfl rfl (by decide) (by decide) hk9 hFc hB9 ht9 (by decide) rfl
  clear hB9 hk9 hz9 hvm9 ht9 hFc hPc hDc
  generalize H1 = H at hP hS ⊢
  refine va_put (D := D) (ci := 4) (v := .int r_24) (ty := .int) (C := RX4) (T := TX4) (N := 8) hx hb hts in_X4 tyX4 tyX4_ok nmX4 hown hK hP hD hS 0 rfl rfl 2 (by decide) q_2 (fun _ h9 => h9) rfl (by decide +kernel) rfl rfl (Nat.le_of_ble_eq_true rfl) dX4_take_27 (fun H locs hP hD hS => ?_)
  have hP : va_P D vwCl (wX4_take cI cB a_ins a_mc a_me a_ps a_by a_ks a_rg r_24 v_i v_r v_s v_a v_b u_15 v_word v_bF v_kF v_rF) H := hP
  have hD : va_D A (wX4_take cI cB a_ins a_mc a_me a_ps a_by a_ks a_rg r_24 v_i v_r v_s v_a v_b u_15 v_word v_bF v_kF v_rF) := hD
  refine lv_aload_n hx hb dX4_take_30 rfl (lv_at hl 1 rfl) ?_
  refine lv_aload_n hx hb dX4_take_31 rfl (lv_at hl 1 rfl) ?_
  refine va_get (D := D) (ci := 4) (v := .ref a_me) (C := RX4) (T := TX4) (N := 8) hx hb hts in_X4 hown hK hP 0 rfl rfl 1 (by decide) q_1 (fun _ h9 => h9) rfl dX4_take_32 ?_
  refine lv_iload_n hx hb dX4_take_35 rfl (lv_at hl 2 rfl) ?_
  refine lv_iconst (v := 1) hx hb dX4_take_36 (by decide) ?_
  refine lv_iadd hx hb dX4_take_37 ?_
  have hPc : va_P D vwCl (wX6_get cI cB a_me a_by a_ks v_bF) H := hP.sub [2, 4] rfl
  have hDc : va_D A (wX6_get cI cB a_me a_by a_ks v_bF) := hD.sub [2, 4] (by decide) rfl
  have hFc := va_free (wc := (wX6_get cI cB a_me a_by a_ks v_bF)) hD hS hA [2, 4] rfl
  refine va_calli (va_runV (As := [.int (x0 + 1)]) (rest := [.ref a_ins]) ⟨hx, hb, hml, hown, hts⟩ (kX6_get l D cI cB a_me a_by a_ks H.size v_bF (x0 + 1)) (cwV 1 hts (gd_V wd_333 wd_109 wd_110 wd_78 wd_102) rfl rfl rfl hdX6_get ⟨Nat.le_of_ble_eq_true rfl, Nat.le_of_ble_eq_true rfl⟩) (preV_std (ci := 6) (q0 := 0) hPc hK hDc hNW rfl rfl) rfl rfl hl.1 rfl (lv_room (Nat.le_of_ble_eq_true rfl)) dX4_take_38 ⟨Nat.zero_le _, Nat.zero_le _⟩) hS (fun q _ h => hFc q h) hFc (fun r_38 u_38 t9 H1 locs ht9 hvm9 hw9 hB9 hz9 hk9 hS => ?_)
  have er_38 : r_38 = fX6_get (x0 + 1) v_bF := hw9
  obtain ⟨hP, hD⟩ := back_std (w1 := (wX6_get cI cB a_me a_by a_ks v_bF)) (w2 := (wX4_take cI cB a_ins a_mc a_me a_ps a_by a_ks a_rg r_24 v_i v_r v_s v_a v_b u_15 v_word v_bF v_kF v_rF)) (wr := [(a_ins, .inr (4, [.ref a_mc, .ref a_me, .int r_24, .int v_i, .int v_r, .int v_s, .int v_a, .int v_b])), (a_mc, .inr (5, [.ref a_me, .ref a_ps, .ref a_rg, .int u_15])), (a_ps, .inr (7, [.long v_word])), (a_ks, .inl (cI, 4, .inl v_kF)), (a_rg, .inl (cI, 16, .inl v_rF))]) hP hD [2, 4] [0, 1, 3, 5, 6] [0, 1, 5, 2, 6, 3, 4] rfl rfl (by decide) (by decide) hk9 hFc hB9 ht9 (by decide) rfl
  clear hB9 hk9 hz9 hvm9 ht9 hFc hPc hDc
  generalize H1 = H at hP hS ⊢
  refine lv_iload_n hx hb dX4_take_41 rfl (lv_at hl 3 rfl) ?_
  refine lv_ior hx hb dX4_take_42 ?_
  refine lv_topi (fun x_43 ex_43 => ?_)
  refine va_put (D := D) (ci := 4) (v := .int x_43) (ty := .int) (C := RX4) (T := TX4) (N := 8) hx hb hts in_X4 tyX4 tyX4_ok nmX4 hown hK hP hD hS 0 rfl rfl 3 (by decide) q_3 (fun _ h9 => h9) rfl (by decide +kernel) rfl rfl (Nat.le_of_ble_eq_true rfl) dX4_take_43 (fun H locs hP hD hS => ?_)
  have hP : va_P D vwCl (wX4_take cI cB a_ins a_mc a_me a_ps a_by a_ks a_rg r_24 x_43 v_r v_s v_a v_b u_15 v_word v_bF v_kF v_rF) H := hP
  have hD : va_D A (wX4_take cI cB a_ins a_mc a_me a_ps a_by a_ks a_rg r_24 x_43 v_r v_s v_a v_b u_15 v_word v_bF v_kF v_rF) := hD
  refine lv_aload_n hx hb dX4_take_46 rfl (lv_at hl 1 rfl) ?_
  refine lv_aload_n hx hb dX4_take_47 rfl (lv_at hl 1 rfl) ?_
  refine va_get (D := D) (ci := 4) (v := .int x_43) (C := RX4) (T := TX4) (N := 8) hx hb hts in_X4 hown hK hP 0 rfl rfl 3 (by decide) q_3 (fun _ h9 => h9) rfl dX4_take_48 ?_
  refine lv_iconst (v := 4) hx hb dX4_take_51 (by decide) ?_
  refine lv_ishr hx hb dX4_take_52 ?_
  refine lv_topi (fun x_53 ex_53 => ?_)
  refine va_put (D := D) (ci := 4) (v := .int x_53) (ty := .int) (C := RX4) (T := TX4) (N := 8) hx hb hts in_X4 tyX4 tyX4_ok nmX4 hown hK hP hD hS 0 rfl rfl 4 (by decide) q_4 (fun _ h9 => h9) rfl (by decide +kernel) rfl rfl (Nat.le_of_ble_eq_true rfl) dX4_take_53 (fun H locs hP hD hS => ?_)
  have hP : va_P D vwCl (wX4_take cI cB a_ins a_mc a_me a_ps a_by a_ks a_rg r_24 x_43 x_53 v_s v_a v_b u_15 v_word v_bF v_kF v_rF) H := hP
  have hD : va_D A (wX4_take cI cB a_ins a_mc a_me a_ps a_by a_ks a_rg r_24 x_43 x_53 v_s v_a v_b u_15 v_word v_bF v_kF v_rF) := hD
  refine lv_aload_n hx hb dX4_take_56 rfl (lv_at hl 1 rfl) ?_
  refine lv_aload_n hx hb dX4_take_57 rfl (lv_at hl 1 rfl) ?_
  refine va_get (D := D) (ci := 4) (v := .int x_43) (C := RX4) (T := TX4) (N := 8) hx hb hts in_X4 hown hK hP 0 rfl rfl 3 (by decide) q_3 (fun _ h9 => h9) rfl dX4_take_58 ?_
  refine lv_bipush (v := 15) hx hb dX4_take_61 (by decide) ?_
  refine lv_iand hx hb dX4_take_63 ?_
  refine lv_topi (fun x_64 ex_64 => ?_)
  refine va_put (D := D) (ci := 4) (v := .int x_64) (ty := .int) (C := RX4) (T := TX4) (N := 8) hx hb hts in_X4 tyX4 tyX4_ok nmX4 hown hK hP hD hS 0 rfl rfl 5 (by decide) q_5 (fun _ h9 => h9) rfl (by decide +kernel) rfl rfl (Nat.le_of_ble_eq_true rfl) dX4_take_64 (fun H locs hP hD hS => ?_)
  have hP : va_P D vwCl (wX4_take cI cB a_ins a_mc a_me a_ps a_by a_ks a_rg r_24 x_43 x_53 x_64 v_a v_b u_15 v_word v_bF v_kF v_rF) H := hP
  have hD : va_D A (wX4_take cI cB a_ins a_mc a_me a_ps a_by a_ks a_rg r_24 x_43 x_53 x_64 v_a v_b u_15 v_word v_bF v_kF v_rF) := hD
  refine lv_aload_n hx hb dX4_take_67 rfl (lv_at hl 1 rfl) ?_
  refine lv_iload_n hx hb dX4_take_68 rfl (lv_at hl 0 rfl) ?_
  refine lv_iconst (v := 1) hx hb dX4_take_69 (by decide) ?_
  have J_84 : ∀ (m_84 : Int32), m_84 = (if r_2 ≤ 1 then (0) else (let r_77 := fX4_baseAndDisplacement (x0 + 2) v_bF v_rF; r_77)) → ∀ (H : Heap) (locs : List Loc), va_P D vwCl (wX4_take cI cB a_ins a_mc a_me a_ps a_by a_ks a_rg r_24 x_43 x_53 x_64 v_a v_b u_15 v_word v_bF v_kF v_rF) H → va_D A (wX4_take cI cB a_ins a_mc a_me a_ps a_by a_ks a_rg r_24 x_43 x_53 x_64 v_a v_b u_15 v_word v_bF v_kF v_rF) → va_S A s.heap H locs → ∀ (ls : Array Slot), lv_has ls 4 [(0, .ref a_ins), (1, .int x0), (2, .int x1), (3, .int r_2)] → W p l e rmX4_take s m ([.ref a_ins, .int x0, .int x1] : List Value).toArray below meth c H locs 0 0 (MQ below (qX4_take D cI cB a_ins a_mc a_me a_ps a_by a_ks a_rg v_op v_i v_r v_s v_a v_b v_fault v_word v_bF v_kF v_rF x0 x1 A) ([.ref a_ins, .int x0, .int x1] : List Value).toArray s 0 0 A) (F0 m 84 ls [.int m_84, .ref a_ins]) := by
    intro m_84 em_84 H locs hP hD hS ls hl
    refine va_put (D := D) (ci := 4) (v := .int m_84) (ty := .int) (C := RX4) (T := TX4) (N := 8) hx hb hts in_X4 tyX4 tyX4_ok nmX4 hown hK hP hD hS 0 rfl rfl 6 (by decide) q_6 (fun _ h9 => h9) rfl (by decide +kernel) rfl rfl (Nat.le_of_ble_eq_true rfl) dX4_take_84 (fun H locs hP hD hS => ?_)
    have hP : va_P D vwCl (wX4_take cI cB a_ins a_mc a_me a_ps a_by a_ks a_rg r_24 x_43 x_53 x_64 m_84 v_b u_15 v_word v_bF v_kF v_rF) H := hP
    have hD : va_D A (wX4_take cI cB a_ins a_mc a_me a_ps a_by a_ks a_rg r_24 x_43 x_53 x_64 m_84 v_b u_15 v_word v_bF v_kF v_rF) := hD
    refine lv_aload_n hx hb dX4_take_87 rfl (lv_at hl 0 rfl) ?_
    refine lv_iload_n hx hb dX4_take_88 rfl (lv_at hl 3 rfl) ?_
    refine lv_iconst (v := 2) hx hb dX4_take_89 (by decide) ?_
    have J_104 : ∀ (m_104 : Int32), m_104 = (if r_2 ≤ 2 then (0) else (let r_97 := fX4_baseAndDisplacement (x0 + 4) v_bF v_rF; r_97)) → ∀ (H : Heap) (locs : List Loc), va_P D vwCl (wX4_take cI cB a_ins a_mc a_me a_ps a_by a_ks a_rg r_24 x_43 x_53 x_64 m_84 v_b u_15 v_word v_bF v_kF v_rF) H → va_D A (wX4_take cI cB a_ins a_mc a_me a_ps a_by a_ks a_rg r_24 x_43 x_53 x_64 m_84 v_b u_15 v_word v_bF v_kF v_rF) → va_S A s.heap H locs → ∀ (ls : Array Slot), lv_has ls 4 [(0, .ref a_ins), (1, .int x0), (2, .int x1), (3, .int r_2)] → W p l e rmX4_take s m ([.ref a_ins, .int x0, .int x1] : List Value).toArray below meth c H locs 0 0 (MQ below (qX4_take D cI cB a_ins a_mc a_me a_ps a_by a_ks a_rg v_op v_i v_r v_s v_a v_b v_fault v_word v_bF v_kF v_rF x0 x1 A) ([.ref a_ins, .int x0, .int x1] : List Value).toArray s 0 0 A) (F0 m 104 ls [.int m_104, .ref a_ins]) := by
      intro m_104 em_104 H locs hP hD hS ls hl
      refine va_put (D := D) (ci := 4) (v := .int m_104) (ty := .int) (C := RX4) (T := TX4) (N := 8) hx hb hts in_X4 tyX4 tyX4_ok nmX4 hown hK hP hD hS 0 rfl rfl 7 (by decide) q_7 (fun _ h9 => h9) rfl (by decide +kernel) rfl rfl (Nat.le_of_ble_eq_true rfl) dX4_take_104 (fun H locs hP hD hS => ?_)
      have hP : va_P D vwCl (wX4_take cI cB a_ins a_mc a_me a_ps a_by a_ks a_rg r_24 x_43 x_53 x_64 m_84 m_104 u_15 v_word v_bF v_kF v_rF) H := hP
      have hD : va_D A (wX4_take cI cB a_ins a_mc a_me a_ps a_by a_ks a_rg r_24 x_43 x_53 x_64 m_84 m_104 u_15 v_word v_bF v_kF v_rF) := hD
      refine lv_aload_n hx hb dX4_take_107 rfl (lv_at hl 0 rfl) ?_
      refine va_get (D := D) (ci := 4) (v := .int r_24) (C := RX4) (T := TX4) (N := 8) hx hb hts in_X4 hown hK hP 0 rfl rfl 2 (by decide) q_2 (fun _ h9 => h9) rfl dX4_take_108 ?_
      refine lv_bipush (v := 64) hx hb dX4_take_111 (by decide) ?_
      refine lv_icmp_lt (tgt := 145) hx hb dX4_take_113 (by decide) (fun c_113 => ?_) (fun c_113 => ?_)
      · skip
        have hf9 : (r_24, x_43, x_53, x_64, m_84, m_104, u_15) = fX4_take x0 x1 v_op v_i v_r v_s v_a v_b v_fault v_word v_bF v_kF v_rF := by subst em_104; subst em_84; subst ex_64; subst ex_53; subst ex_43; simp only [fX4_take, ← er_2, ← eu_15, ← er_24, ← er_38, if_pos c_113]
        exact W.vret hx hb hr (fun t9 ht9 hW9 => ⟨⟨(r_24, x_43, x_53, x_64, m_84, m_104, u_15), rfl, hf9, ⟨by rw [ht9]; exact hP, va_K.moved hW9.alike hK, hD⟩⟩, hS.F ht9⟩) hS.2.2 dX4_take_145
      · skip
        refine lv_aload_n hx hb dX4_take_116 rfl (lv_at hl 0 rfl) ?_
        refine va_get (D := D) (ci := 4) (v := .int r_24) (C := RX4) (T := TX4) (N := 8) hx hb hts in_X4 hown hK hP 0 rfl rfl 2 (by decide) q_2 (fun _ h9 => h9) rfl dX4_take_117 ?_
        refine lv_bipush (v := 95) hx hb dX4_take_120 (by decide) ?_
        refine lv_icmp_gt (tgt := 145) hx hb dX4_take_122 (by decide) (fun c_122 => ?_) (fun c_122 => ?_)
        · skip
          have hf9 : (r_24, x_43, x_53, x_64, m_84, m_104, u_15) = fX4_take x0 x1 v_op v_i v_r v_s v_a v_b v_fault v_word v_bF v_kF v_rF := by subst em_104; subst em_84; subst ex_64; subst ex_53; subst ex_43; simp only [fX4_take, ← er_2, ← eu_15, ← er_24, ← er_38, if_neg c_113, if_pos c_122]
          exact W.vret hx hb hr (fun t9 ht9 hW9 => ⟨⟨(r_24, x_43, x_53, x_64, m_84, m_104, u_15), rfl, hf9, ⟨by rw [ht9]; exact hP, va_K.moved hW9.alike hK, hD⟩⟩, hS.F ht9⟩) hS.2.2 dX4_take_145
        · skip
          refine lv_aload_n hx hb dX4_take_125 rfl (lv_at hl 0 rfl) ?_
          refine lv_aload_n hx hb dX4_take_126 rfl (lv_at hl 0 rfl) ?_
          refine va_get (D := D) (ci := 4) (v := .int m_84) (C := RX4) (T := TX4) (N := 8) hx hb hts in_X4 hown hK hP 0 rfl rfl 6 (by decide) q_6 (fun _ h9 => h9) rfl dX4_take_127 ?_
          refine lv_aload_n hx hb dX4_take_130 rfl (lv_at hl 0 rfl) ?_
          refine lv_aload_n hx hb dX4_take_131 rfl (lv_at hl 0 rfl) ?_
          refine va_get (D := D) (ci := 4) (v := .int x_64) (C := RX4) (T := TX4) (N := 8) hx hb hts in_X4 hown hK hP 0 rfl rfl 5 (by decide) q_5 (fun _ h9 => h9) rfl dX4_take_132 ?_
          have hPc : va_P D vwCl (wX4_unlessZero cI cB a_ins a_mc a_me a_ps a_rg r_24 x_43 x_53 x_64 m_84 m_104 u_15 v_rF) H := hP.sub [0, 1, 6] rfl
          have hDc : va_D A (wX4_unlessZero cI cB a_ins a_mc a_me a_ps a_rg r_24 x_43 x_53 x_64 m_84 m_104 u_15 v_rF) := hD.sub [0, 1, 6] (by decide) rfl
          have hFc := va_free (wc := (wX4_unlessZero cI cB a_ins a_mc a_me a_ps a_rg r_24 x_43 x_53 x_64 m_84 m_104 u_15 v_rF)) hD hS hA [0, 1, 6] rfl
          refine va_calli (va_runV (As := [.int x_64]) (rest := [.int m_84, .ref a_ins]) ⟨hx, hb, hml, hown, hts⟩ (kX4_unlessZero l D cI cB a_ins a_mc a_me a_ps a_rg H.size r_24 x_43 x_53 x_64 m_84 m_104 u_15 v_rF x_64) (cwV 1 hts (gd_V wd_342 wd_343 wd_344 wd_345 wd_335) rfl rfl rfl hdX4_unlessZero ⟨Nat.le_of_ble_eq_true rfl, Nat.le_of_ble_eq_true rfl⟩) (preV_std (ci := 4) (q0 := 0) hPc hK hDc hNW rfl rfl) rfl rfl hl.1 rfl (lv_room (Nat.le_of_ble_eq_true rfl)) dX4_take_135 ⟨Nat.zero_le _, Nat.zero_le _⟩) hS (fun q _ h => hFc q h) hFc (fun r_135 u_135 t9 H1 locs ht9 hvm9 hw9 hB9 hz9 hk9 hS => ?_)
          have er_135 : r_135 = fX4_unlessZero x_64 v_rF := hw9
          obtain ⟨hP, hD⟩ := back_std (w1 := (wX4_unlessZero cI cB a_ins a_mc a_me a_ps a_rg r_24 x_43 x_53 x_64 m_84 m_104 u_15 v_rF)) (w2 := (wX4_take cI cB a_ins a_mc a_me a_ps a_by a_ks a_rg r_24 x_43 x_53 x_64 m_84 m_104 u_15 v_word v_bF v_kF v_rF)) (wr := [(a_me, .inr (6, [.ref a_by, .ref a_ks])), (a_ps, .inr (7, [.long v_word])), (a_by, .inl (cB, 8192, .inl v_bF)), (a_ks, .inl (cI, 4, .inl v_kF))]) hP hD [0, 1, 6] [2, 3, 4, 5] [4, 5, 0, 1, 2, 3, 6] rfl rfl (by decide) (by decide) hk9 hFc hB9 ht9 (by decide) rfl
          clear hB9 hk9 hz9 hvm9 ht9 hFc hPc hDc
          generalize H1 = H at hP hS ⊢
          refine lv_iadd hx hb dX4_take_138 ?_
          refine lv_ldc (v := 16777215) hx hb hown q_8 dX4_take_139 ?_
          refine lv_iand hx hb dX4_take_141 ?_
          refine lv_topi (fun x_142 ex_142 => ?_)
          refine va_put (D := D) (ci := 4) (v := .int x_142) (ty := .int) (C := RX4) (T := TX4) (N := 8) hx hb hts in_X4 tyX4 tyX4_ok nmX4 hown hK hP hD hS 0 rfl rfl 6 (by decide) q_6 (fun _ h9 => h9) rfl (by decide +kernel) rfl rfl (Nat.le_of_ble_eq_true rfl) dX4_take_142 (fun H locs hP hD hS => ?_)
          have hP : va_P D vwCl (wX4_take cI cB a_ins a_mc a_me a_ps a_by a_ks a_rg r_24 x_43 x_53 x_64 x_142 m_104 u_15 v_word v_bF v_kF v_rF) H := hP
          have hD : va_D A (wX4_take cI cB a_ins a_mc a_me a_ps a_by a_ks a_rg r_24 x_43 x_53 x_64 x_142 m_104 u_15 v_word v_bF v_kF v_rF) := hD
          have hf9 : (r_24, x_43, x_53, x_64, x_142, m_104, u_15) = fX4_take x0 x1 v_op v_i v_r v_s v_a v_b v_fault v_word v_bF v_kF v_rF := by subst ex_142; subst em_104; subst em_84; subst ex_64; subst ex_53; subst ex_43; simp only [fX4_take, ← er_2, ← eu_15, ← er_24, ← er_38, ← er_135, if_neg c_113, if_neg c_122]
          exact W.vret hx hb hr (fun t9 ht9 hW9 => ⟨⟨(r_24, x_43, x_53, x_64, x_142, m_104, u_15), rfl, hf9, ⟨by rw [ht9]; exact hP, va_K.moved hW9.alike hK, hD⟩⟩, hS.F ht9⟩) hS.2.2 dX4_take_145
    refine lv_icmp_le (tgt := 103) hx hb dX4_take_90 (by decide) (fun c_90 => ?_) (fun c_90 => ?_)
    · skip
      refine lv_iconst (v := 0) hx hb dX4_take_103 (by decide) ?_
      exact J_104 0 (by simp only [if_pos c_90]) _ _ hP hD hS ls (lv_sub hl [0, 1, 2, 3] rfl)
    · skip
      refine lv_aload_n hx hb dX4_take_93 rfl (lv_at hl 0 rfl) ?_
      refine lv_iload_n hx hb dX4_take_94 rfl (lv_at hl 1 rfl) ?_
      refine lv_iconst (v := 4) hx hb dX4_take_95 (by decide) ?_
      refine lv_iadd hx hb dX4_take_96 ?_
      have hPc : va_P D vwCl (wX4_baseAndDisplacement cI cB a_ins a_mc a_me a_ps a_by a_ks a_rg r_24 x_43 x_53 x_64 m_84 v_b u_15 v_bF v_rF) H := hP.sub [0, 1, 2, 4, 6] rfl
      have hDc : va_D A (wX4_baseAndDisplacement cI cB a_ins a_mc a_me a_ps a_by a_ks a_rg r_24 x_43 x_53 x_64 m_84 v_b u_15 v_bF v_rF) := hD.sub [0, 1, 2, 4, 6] (by decide) rfl
      have hFc := va_free (wc := (wX4_baseAndDisplacement cI cB a_ins a_mc a_me a_ps a_by a_ks a_rg r_24 x_43 x_53 x_64 m_84 v_b u_15 v_bF v_rF)) hD hS hA [0, 1, 2, 4, 6] rfl
      refine va_calli (va_runV (As := [.int (x0 + 4)]) (rest := [.ref a_ins]) ⟨hx, hb, hml, hown, hts⟩ (kX4_baseAndDisplacement l D cI cB a_ins a_mc a_me a_ps a_by a_ks a_rg H.size r_24 x_43 x_53 x_64 m_84 v_b u_15 v_bF v_rF (x0 + 4)) (cwV 1 hts (gd_V wd_355 wd_356 wd_357 wd_345 wd_337) rfl rfl rfl hdX4_baseAndDisplacement ⟨Nat.le_of_ble_eq_true rfl, Nat.le_of_ble_eq_true rfl⟩) (preV_std (ci := 4) (q0 := 0) hPc hK hDc hNW rfl rfl) rfl rfl hl.1 rfl (lv_room (Nat.le_of_ble_eq_true rfl)) dX4_take_97 ⟨Nat.zero_le _, Nat.zero_le _⟩) hS (fun q _ h => hFc q h) hFc (fun r_97 u_97 t9 H1 locs ht9 hvm9 hw9 hB9 hz9 hk9 hS => ?_)
      have er_97 : r_97 = fX4_baseAndDisplacement (x0 + 4) v_bF v_rF := hw9
      obtain ⟨hP, hD⟩ := back_std (w1 := (wX4_baseAndDisplacement cI cB a_ins a_mc a_me a_ps a_by a_ks a_rg r_24 x_43 x_53 x_64 m_84 v_b u_15 v_bF v_rF)) (w2 := (wX4_take cI cB a_ins a_mc a_me a_ps a_by a_ks a_rg r_24 x_43 x_53 x_64 m_84 v_b u_15 v_word v_bF v_kF v_rF)) (wr := [(a_ps, .inr (7, [.long v_word])), (a_ks, .inl (cI, 4, .inl v_kF))]) hP hD [0, 1, 2, 4, 6] [3, 5] [2, 3, 4, 0, 5, 1, 6] rfl rfl (by decide) (by decide) hk9 hFc hB9 ht9 (by decide) rfl
      clear hB9 hk9 hz9 hvm9 ht9 hFc hPc hDc
      generalize H1 = H at hP hS ⊢
      refine lv_goto (tgt := 104) hx hb dX4_take_100 (by decide) ?_
      exact J_104 r_97 (by simp only [← er_97, if_neg c_90]) _ _ hP hD hS ls (lv_sub hl [0, 1, 2, 3] rfl)
  refine lv_icmp_le (tgt := 83) hx hb dX4_take_70 (by decide) (fun c_70 => ?_) (fun c_70 => ?_)
  · skip
    refine lv_iconst (v := 0) hx hb dX4_take_83 (by decide) ?_
    exact J_84 0 (by simp only [if_pos c_70]) _ _ hP hD hS ls (lv_sub hl [1, 2, 3, 0] rfl)
  · skip
    refine lv_aload_n hx hb dX4_take_73 rfl (lv_at hl 1 rfl) ?_
    refine lv_iload_n hx hb dX4_take_74 rfl (lv_at hl 2 rfl) ?_
    refine lv_iconst (v := 2) hx hb dX4_take_75 (by decide) ?_
    refine lv_iadd hx hb dX4_take_76 ?_
    have hPc : va_P D vwCl (wX4_baseAndDisplacement cI cB a_ins a_mc a_me a_ps a_by a_ks a_rg r_24 x_43 x_53 x_64 v_a v_b u_15 v_bF v_rF) H := hP.sub [0, 1, 2, 4, 6] rfl
    have hDc : va_D A (wX4_baseAndDisplacement cI cB a_ins a_mc a_me a_ps a_by a_ks a_rg r_24 x_43 x_53 x_64 v_a v_b u_15 v_bF v_rF) := hD.sub [0, 1, 2, 4, 6] (by decide) rfl
    have hFc := va_free (wc := (wX4_baseAndDisplacement cI cB a_ins a_mc a_me a_ps a_by a_ks a_rg r_24 x_43 x_53 x_64 v_a v_b u_15 v_bF v_rF)) hD hS hA [0, 1, 2, 4, 6] rfl
    refine va_calli (va_runV (As := [.int (x0 + 2)]) (rest := [.ref a_ins]) ⟨hx, hb, hml, hown, hts⟩ (kX4_baseAndDisplacement l D cI cB a_ins a_mc a_me a_ps a_by a_ks a_rg H.size r_24 x_43 x_53 x_64 v_a v_b u_15 v_bF v_rF (x0 + 2)) (cwV 1 hts (gd_V wd_355 wd_356 wd_357 wd_345 wd_337) rfl rfl rfl hdX4_baseAndDisplacement ⟨Nat.le_of_ble_eq_true rfl, Nat.le_of_ble_eq_true rfl⟩) (preV_std (ci := 4) (q0 := 0) hPc hK hDc hNW rfl rfl) rfl rfl hl.1 rfl (lv_room (Nat.le_of_ble_eq_true rfl)) dX4_take_77 ⟨Nat.zero_le _, Nat.zero_le _⟩) hS (fun q _ h => hFc q h) hFc (fun r_77 u_77 t9 H1 locs ht9 hvm9 hw9 hB9 hz9 hk9 hS => ?_)
    have er_77 : r_77 = fX4_baseAndDisplacement (x0 + 2) v_bF v_rF := hw9
    obtain ⟨hP, hD⟩ := back_std (w1 := (wX4_baseAndDisplacement cI cB a_ins a_mc a_me a_ps a_by a_ks a_rg r_24 x_43 x_53 x_64 v_a v_b u_15 v_bF v_rF)) (w2 := (wX4_take cI cB a_ins a_mc a_me a_ps a_by a_ks a_rg r_24 x_43 x_53 x_64 v_a v_b u_15 v_word v_bF v_kF v_rF)) (wr := [(a_ps, .inr (7, [.long v_word])), (a_ks, .inl (cI, 4, .inl v_kF))]) hP hD [0, 1, 2, 4, 6] [3, 5] [2, 3, 4, 0, 5, 1, 6] rfl rfl (by decide) (by decide) hk9 hFc hB9 ht9 (by decide) rfl
    clear hB9 hk9 hz9 hvm9 ht9 hFc hPc hDc
    generalize H1 = H at hP hS ⊢
    refine lv_goto (tgt := 84) hx hb dX4_take_80 (by decide) ?_
    exact J_84 r_77 (by simp only [← er_77, if_neg c_70]) _ _ hP hD hS ls (lv_sub hl [1, 2, 3, 0] rfl)
theorem hdX4_take : yX4_take.cls = RX4 ∧ yX4_take.cls ≠ "java/lang/invoke/MethodHandle" ∧ yX4_take.cls ≠ "java/lang/invoke/VarHandle" ∧ (parseMethodDescriptor yX4_take.desc).map (fun d => d.parameters.length) = some 2 := by decide +kernel
