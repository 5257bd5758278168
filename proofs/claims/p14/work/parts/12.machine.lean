noncomputable def fX5_reg (x0 : Int32) (v_rF : (Nat → Int32)) : Int32 :=
  (v_rF ((x0 &&& 15) : Int32).toNatClampNeg)
abbrev wX5_reg (cI cB : ClassId) (a_mc a_me a_ps a_rg : Nat) (v_fault : Int32) (v_rF : (Nat → Int32)) : va_W := [(a_mc, .inr (5, [.ref a_me, .ref a_ps, .ref a_rg, .int v_fault])), (a_rg, .inl (cI, 16, .inl v_rF))]
abbrev rmX5_reg : Room := { frames := 0, cells := 0, slots := 0, locals := 0 }
abbrev qX5_reg (D : va_G) (cI cB : ClassId) (a_mc a_me a_ps a_rg : Nat) (v_fault : Int32) (v_rF : (Nat → Int32)) (x0 : Int32) : (Nat → Prop) → Array Value → State → Outcome → State → Prop := fun A9 => va_Qi (fun (r9 : Int32) (u9 : Unit) => r9 = fX5_reg x0 v_rF) (fun u9 t9 => atW D (TYS cI cB) A9 (wX5_reg cI cB a_mc a_me a_ps a_rg v_fault v_rF) t9) A9
set_option maxHeartbeats 4000000 in
set_option maxRecDepth 100000 in
theorem kX5_reg (l : Launch) (D : va_G) (cI cB : ClassId) (a_mc a_me a_ps a_rg : Nat) (sz : Nat) (v_fault : Int32) (v_rF : (Nat → Int32)) (x0 : Int32) : MetW l yX5_reg (WK yX5_reg cX5_reg 2 (some .int)) rmX5_reg D (TYS cI cB) (wX5_reg cI cB a_mc a_me a_ps a_rg v_fault v_rF) sz [.ref a_mc, .int x0] (qX5_reg D cI cB a_mc a_me a_ps a_rg v_fault v_rF x0) 0 0 := by
  refine met_std (by decide) rfl (Nat.le_of_ble_eq_true rfl) ?_
  intro p e s m below meth c A ls H hx hb hr hml hown hts hlocks hA hP hK hD hS hNW hl
  have hl : lv_has ls 2 [(0, .ref a_mc), (1, .int x0)] := hl
  have q_0 := hts _ (List.mem_cons_of_mem _ wd_7)
  refine lv_aload_n hx hb dX5_reg_0 rfl (lv_at hl 0 rfl) ?_
  refine va_get (D := D) (ci := 5) (v := .ref a_rg) (C := RX5) (T := TX5) (N := 4) hx hb hts in_X5 hown hK hP 0 rfl rfl 2 (by decide) q_0 (fun _ h9 => h9) rfl dX5_reg_1 ?_
  refine lv_iload_n hx hb dX5_reg_4 rfl (lv_at hl 1 rfl) ?_
  refine lv_bipush (v := 15) hx hb dX5_reg_5 (by decide) ?_
  refine lv_iand hx hb dX5_reg_7 ?_
  refine va_iald hx hb hK hP 1 0 rfl rfl (pk_andIn _ 4 (by decide) (by decide)) dX5_reg_8 ?_
  have hf9 : (v_rF ((x0 &&& 15) : Int32).toNatClampNeg) = fX5_reg x0 v_rF := by simp only [fX5_reg]
  exact W.iret hx hb hr (fun t9 ht9 hW9 => ⟨⟨(v_rF ((x0 &&& 15) : Int32).toNatClampNeg), (), rfl, hf9, ⟨by rw [ht9]; exact hP, va_K.moved hW9.alike hK, hD⟩⟩, hS.F ht9⟩) hS.2.2 dX5_reg_9
theorem hdX5_reg : yX5_reg.cls = RX5 ∧ yX5_reg.cls ≠ "java/lang/invoke/MethodHandle" ∧ yX5_reg.cls ≠ "java/lang/invoke/VarHandle" ∧ (parseMethodDescriptor yX5_reg.desc).map (fun d => d.parameters.length) = some 1 := by decide +kernel
noncomputable def fX5_setReg (x0 : Int32) (x1 : Int32) (v_rF : (Nat → Int32)) : (Nat → Int32) :=
  let f_9 := upd v_rF ((x0 &&& 15) : Int32).toNatClampNeg (x1)
  f_9
abbrev wX5_setReg (cI cB : ClassId) (a_mc a_me a_ps a_rg : Nat) (v_fault : Int32) (v_rF : (Nat → Int32)) : va_W := [(a_mc, .inr (5, [.ref a_me, .ref a_ps, .ref a_rg, .int v_fault])), (a_rg, .inl (cI, 16, .inl v_rF))]
abbrev rmX5_setReg : Room := { frames := 0, cells := 0, slots := 0, locals := 0 }
abbrev qX5_setReg (D : va_G) (cI cB : ClassId) (a_mc a_me a_ps a_rg : Nat) (v_fault : Int32) (v_rF : (Nat → Int32)) (x0 : Int32) (x1 : Int32) : (Nat → Prop) → Array Value → State → Outcome → State → Prop := fun A9 => va_Qv (fun (u9 : (Nat → Int32)) => u9 = fX5_setReg x0 x1 v_rF) (fun u9 t9 => atW D (TYS cI cB) A9 (wX5_setReg cI cB a_mc a_me a_ps a_rg v_fault u9) t9) A9
set_option maxHeartbeats 4000000 in
set_option maxRecDepth 100000 in
theorem kX5_setReg (l : Launch) (D : va_G) (cI cB : ClassId) (a_mc a_me a_ps a_rg : Nat) (sz : Nat) (v_fault : Int32) (v_rF : (Nat → Int32)) (x0 : Int32) (x1 : Int32) : MetW l yX5_setReg (WK yX5_setReg cX5_setReg 3 none) rmX5_setReg D (TYS cI cB) (wX5_setReg cI cB a_mc a_me a_ps a_rg v_fault v_rF) sz [.ref a_mc, .int x0, .int x1] (qX5_setReg D cI cB a_mc a_me a_ps a_rg v_fault v_rF x0 x1) 0 0 := by
  refine met_std (by decide) rfl (Nat.le_of_ble_eq_true rfl) ?_
  intro p e s m below meth c A ls H hx hb hr hml hown hts hlocks hA hP hK hD hS hNW hl
  have hl : lv_has ls 3 [(0, .ref a_mc), (1, .int x0), (2, .int x1)] := hl
  have q_0 := hts _ (List.mem_cons_of_mem _ wd_7)
  refine lv_aload_n hx hb dX5_setReg_0 rfl (lv_at hl 0 rfl) ?_
  refine va_get (D := D) (ci := 5) (v := .ref a_rg) (C := RX5) (T := TX5) (N := 4) hx hb hts in_X5 hown hK hP 0 rfl rfl 2 (by decide) q_0 (fun _ h9 => h9) rfl dX5_setReg_1 ?_
  refine lv_iload_n hx hb dX5_setReg_4 rfl (lv_at hl 1 rfl) ?_
  refine lv_bipush (v := 15) hx hb dX5_setReg_5 (by decide) ?_
  refine lv_iand hx hb dX5_setReg_7 ?_
  refine lv_iload_n hx hb dX5_setReg_8 rfl (lv_at hl 2 rfl) ?_
  refine va_iast hx hb hK hP hD hS 1 0 rfl rfl (pk_andIn _ 4 (by decide) (by decide)) dX5_setReg_9 (fun H locs hP hD hS => ?_)
  obtain ⟨f_9, ef_9⟩ : ∃ z : Nat → Int32, z = upd v_rF ((x0 &&& 15) : Int32).toNatClampNeg (x1) := ⟨_, rfl⟩
  have hP : va_P D vwCl (wX5_setReg cI cB a_mc a_me a_ps a_rg v_fault (upd v_rF ((x0 &&& 15) : Int32).toNatClampNeg (x1))) H := hP
  have hD : va_D A (wX5_setReg cI cB a_mc a_me a_ps a_rg v_fault (upd v_rF ((x0 &&& 15) : Int32).toNatClampNeg (x1))) := hD
  rw [← ef_9] at hP hD
  have hf9 : f_9 = fX5_setReg x0 x1 v_rF := by subst ef_9; simp only [fX5_setReg]
  exact W.vret hx hb hr (fun t9 ht9 hW9 => ⟨⟨f_9, rfl, hf9, ⟨by rw [ht9]; exact hP, va_K.moved hW9.alike hK, hD⟩⟩, hS.F ht9⟩) hS.2.2 dX5_setReg_10
theorem hdX5_setReg : yX5_setReg.cls = RX5 ∧ yX5_setReg.cls ≠ "java/lang/invoke/MethodHandle" ∧ yX5_setReg.cls ≠ "java/lang/invoke/VarHandle" ∧ (parseMethodDescriptor yX5_setReg.desc).map (fun d => d.parameters.length) = some 2 := by decide +kernel
noncomputable def fX5_pair (x0 : Int32) (v_rF : (Nat → Int32)) : Int64 :=
  let r_2 := fX5_reg x0 v_rF
  let r_13 := fX5_reg (x0 + 1) v_rF
  (((r_2 : Int32).toInt64 <<< ((32 : Int32).toInt64 &&& 63)) ||| ((r_13 : Int32).toInt64 &&& 4294967295))
abbrev wX5_pair (cI cB : ClassId) (a_mc a_me a_ps a_rg : Nat) (v_fault : Int32) (v_rF : (Nat → Int32)) : va_W := [(a_mc, .inr (5, [.ref a_me, .ref a_ps, .ref a_rg, .int v_fault])), (a_rg, .inl (cI, 16, .inl v_rF))]
abbrev rmX5_pair : Room := { frames := 1, cells := 0, slots := 0, locals := 21 }
abbrev qX5_pair (D : va_G) (cI cB : ClassId) (a_mc a_me a_ps a_rg : Nat) (v_fault : Int32) (v_rF : (Nat → Int32)) (x0 : Int32) : (Nat → Prop) → Array Value → State → Outcome → State → Prop := fun A9 => va_Ql (fun (r9 : Int64) (u9 : Unit) => r9 = fX5_pair x0 v_rF) (fun u9 t9 => atW D (TYS cI cB) A9 (wX5_pair cI cB a_mc a_me a_ps a_rg v_fault v_rF) t9) A9
set_option maxHeartbeats 4000000 in
set_option maxRecDepth 100000 in
theorem kX5_pair (l : Launch) (D : va_G) (cI cB : ClassId) (a_mc a_me a_ps a_rg : Nat) (sz : Nat) (v_fault : Int32) (v_rF : (Nat → Int32)) (x0 : Int32) : MetW l yX5_pair (WK yX5_pair cX5_pair 2 (some .long)) rmX5_pair D (TYS cI cB) (wX5_pair cI cB a_mc a_me a_ps a_rg v_fault v_rF) sz [.ref a_mc, .int x0] (qX5_pair D cI cB a_mc a_me a_ps a_rg v_fault v_rF x0) 0 0 := by
  refine met_std (by decide) rfl (Nat.le_of_ble_eq_true rfl) ?_
  intro p e s m below meth c A ls H hx hb hr hml hown hts hlocks hA hP hK hD hS hNW hl
  have hl : lv_has ls 2 [(0, .ref a_mc), (1, .int x0)] := hl
  have q_0 := hts _ (List.mem_cons_of_mem _ wd_373)
  refine lv_aload_n hx hb dX5_pair_0 rfl (lv_at hl 0 rfl) ?_
  refine lv_iload_n hx hb dX5_pair_1 rfl (lv_at hl 1 rfl) ?_
  have hPc : va_P D vwCl (wX5_reg cI cB a_mc a_me a_ps a_rg v_fault v_rF) H := hP.sub [0, 1] rfl
  have hDc : va_D A (wX5_reg cI cB a_mc a_me a_ps a_rg v_fault v_rF) := hD.sub [0, 1] (by decide) rfl
  have hFc := va_free (wc := (wX5_reg cI cB a_mc a_me a_ps a_rg v_fault v_rF)) hD hS hA [0, 1] rfl
  refine va_calli (va_runV (As := [.int x0]) (rest := []) ⟨hx, hb, hml, hown, hts⟩ (kX5_reg l D cI cB a_mc a_me a_ps a_rg H.size v_fault v_rF x0) (cwV 1 hts (gd_V wd_82 wd_31 wd_32 wd_24 wd_29) rfl rfl rfl hdX5_reg ⟨Nat.le_of_ble_eq_true rfl, Nat.le_of_ble_eq_true rfl⟩) (preV_std (ci := 5) (q0 := 0) hPc hK hDc hNW rfl rfl) rfl rfl hl.1 rfl (lv_room (Nat.le_of_ble_eq_true rfl)) dX5_pair_2 ⟨Nat.zero_le _, Nat.zero_le _⟩) hS (fun q _ h => hFc q h) hFc (fun r_2 u_2 t9 H1 locs ht9 hvm9 hw9 hB9 hz9 hk9 hS => ?_)
  have er_2 : r_2 = fX5_reg x0 v_rF := hw9
  obtain ⟨hP, hD⟩ := back_std (w1 := (wX5_reg cI cB a_mc a_me a_ps a_rg v_fault v_rF)) (w2 := (wX5_pair cI cB a_mc a_me a_ps a_rg v_fault v_rF)) (wr := []) hP hD [0, 1] [] [0, 1] rfl rfl (by decide) (by decide) hk9 hFc hB9 ht9 (by decide) rfl
  clear hB9 hk9 hz9 hvm9 ht9 hFc hPc hDc
  generalize H1 = H at hP hS ⊢
  refine lv_i2l hx hb dX5_pair_5 rfl ?_
  refine lv_bipush (v := 32) hx hb dX5_pair_6 (by decide) ?_
  refine lv_lshl hx hb dX5_pair_8 rfl ?_
  refine lv_aload_n hx hb dX5_pair_9 rfl (lv_at hl 0 rfl) ?_
  refine lv_iload_n hx hb dX5_pair_10 rfl (lv_at hl 1 rfl) ?_
  refine lv_iconst (v := 1) hx hb dX5_pair_11 (by decide) ?_
  refine lv_iadd hx hb dX5_pair_12 ?_
  have hPc : va_P D vwCl (wX5_reg cI cB a_mc a_me a_ps a_rg v_fault v_rF) H := hP.sub [0, 1] rfl
  have hDc : va_D A (wX5_reg cI cB a_mc a_me a_ps a_rg v_fault v_rF) := hD.sub [0, 1] (by decide) rfl
  have hFc := va_free (wc := (wX5_reg cI cB a_mc a_me a_ps a_rg v_fault v_rF)) hD hS hA [0, 1] rfl
  refine va_calli (va_runV (As := [.int (x0 + 1)]) (rest := [.long (((r_2 : Int32).toInt64 <<< ((32 : Int32).toInt64 &&& 63)))]) ⟨hx, hb, hml, hown, hts⟩ (kX5_reg l D cI cB a_mc a_me a_ps a_rg H.size v_fault v_rF (x0 + 1)) (cwV 1 hts (gd_V wd_82 wd_31 wd_32 wd_24 wd_29) rfl rfl rfl hdX5_reg ⟨Nat.le_of_ble_eq_true rfl, Nat.le_of_ble_eq_true rfl⟩) (preV_std (ci := 5) (q0 := 0) hPc hK hDc hNW rfl rfl) rfl rfl hl.1 rfl (lv_room (Nat.le_of_ble_eq_true rfl)) dX5_pair_13 ⟨Nat.zero_le _, Nat.zero_le _⟩) hS (fun q _ h => hFc q h) hFc (fun r_13 u_13 t9 H1 locs ht9 hvm9 hw9 hB9 hz9 hk9 hS => ?_)
  have er_13 : r_13 = fX5_reg (x0 + 1) v_rF := hw9
  obtain ⟨hP, hD⟩ := back_std (w1 := (wX5_reg cI cB a_mc a_me a_ps a_rg v_fault v_rF)) (w2 := (wX5_pair cI cB a_mc a_me a_ps a_rg v_fault v_rF)) (wr := []) hP hD [0, 1] [] [0, 1] rfl rfl (by decide) (by decide) hk9 hFc hB9 ht9 (by decide) rfl
  clear hB9 hk9 hz9 hvm9 ht9 hFc hPc hDc
  generalize H1 = H at hP hS ⊢
  refine lv_i2l hx hb dX5_pair_16 rfl ?_
  refine lv_ldc2 (v := 4294967295) hx hb hown q_0 dX5_pair_17 ?_
  refine lv_land hx hb dX5_pair_20 ?_
  refine lv_lor hx hb dX5_pair_21 ?_
  have hf9 : (((r_2 : Int32).toInt64 <<< ((32 : Int32).toInt64 &&& 63)) ||| ((r_13 : Int32).toInt64 &&& 4294967295)) = fX5_pair x0 v_rF := by simp only [fX5_pair, ← er_2, ← er_13]
  exact W.lret hx hb hr (fun t9 ht9 hW9 => ⟨⟨(((r_2 : Int32).toInt64 <<< ((32 : Int32).toInt64 &&& 63)) ||| ((r_13 : Int32).toInt64 &&& 4294967295)), (), rfl, hf9, ⟨by rw [ht9]; exact hP, va_K.moved hW9.alike hK, hD⟩⟩, hS.F ht9⟩) hS.2.2 dX5_pair_22
theorem hdX5_pair : yX5_pair.cls = RX5 ∧ yX5_pair.cls ≠ "java/lang/invoke/MethodHandle" ∧ yX5_pair.cls ≠ "java/lang/invoke/VarHandle" ∧ (parseMethodDescriptor yX5_pair.desc).map (fun d => d.parameters.length) = some 1 := by decide +kernel
noncomputable def fX5_setPair (x0 : Int32) (x1 : Int64) (v_rF : (Nat → Int32)) : (Nat → Int32) :=
  let u_7 := fX5_setReg x0 (((x1 >>> ((32 : Int32).toInt64 &&& 63)) : Int64).toInt32) v_rF
  let u_16 := fX5_setReg (x0 + 1) ((x1 : Int64).toInt32) u_7
  u_16
abbrev wX5_setPair (cI cB : ClassId) (a_mc a_me a_ps a_rg : Nat) (v_fault : Int32) (v_rF : (Nat → Int32)) : va_W := [(a_mc, .inr (5, [.ref a_me, .ref a_ps, .ref a_rg, .int v_fault])), (a_rg, .inl (cI, 16, .inl v_rF))]
abbrev rmX5_setPair : Room := { frames := 1, cells := 0, slots := 0, locals := 22 }
abbrev qX5_setPair (D : va_G) (cI cB : ClassId) (a_mc a_me a_ps a_rg : Nat) (v_fault : Int32) (v_rF : (Nat → Int32)) (x0 : Int32) (x1 : Int64) : (Nat → Prop) → Array Value → State → Outcome → State → Prop := fun A9 => va_Qv (fun (u9 : (Nat → Int32)) => u9 = fX5_setPair x0 x1 v_rF) (fun u9 t9 => atW D (TYS cI cB) A9 (wX5_setPair cI cB a_mc a_me a_ps a_rg v_fault u9) t9) A9
set_option maxHeartbeats 4000000 in
set_option maxRecDepth 100000 in
theorem kX5_setPair (l : Launch) (D : va_G) (cI cB : ClassId) (a_mc a_me a_ps a_rg : Nat) (sz : Nat) (v_fault : Int32) (v_rF : (Nat → Int32)) (x0 : Int32) (x1 : Int64) : MetW l yX5_setPair (WK yX5_setPair cX5_setPair 4 none) rmX5_setPair D (TYS cI cB) (wX5_setPair cI cB a_mc a_me a_ps a_rg v_fault v_rF) sz [.ref a_mc, .int x0, .long x1] (qX5_setPair D cI cB a_mc a_me a_ps a_rg v_fault v_rF x0 x1) 0 0 := by
  refine met_std (by decide) rfl (Nat.le_of_ble_eq_true rfl) ?_
  intro p e s m below meth c A ls H hx hb hr hml hown hts hlocks hA hP hK hD hS hNW hl
  have hl : lv_has ls 4 [(0, .ref a_mc), (1, .int x0), (2, .long x1)] := hl
  refine lv_aload_n hx hb dX5_setPair_0 rfl (lv_at hl 0 rfl) ?_
  refine lv_iload_n hx hb dX5_setPair_1 rfl (lv_at hl 1 rfl) ?_
  refine lv_lload_n hx hb dX5_setPair_2 rfl (lv_at hl 2 rfl) ?_
  refine lv_bipush (v := 32) hx hb dX5_setPair_3 (by decide) ?_
  refine lv_lshr hx hb dX5_setPair_5 rfl ?_
  refine lv_l2i hx hb dX5_setPair_6 rfl ?_
  have hPc : va_P D vwCl (wX5_setReg cI cB a_mc a_me a_ps a_rg v_fault v_rF) H := hP.sub [0, 1] rfl
  have hDc : va_D A (wX5_setReg cI cB a_mc a_me a_ps a_rg v_fault v_rF) := hD.sub [0, 1] (by decide) rfl
  have hFc := va_free (wc := (wX5_setReg cI cB a_mc a_me a_ps a_rg v_fault v_rF)) hD hS hA [0, 1] rfl
  refine va_callv (va_runV (As := [.int x0, .int (((x1 >>> ((32 : Int32).toInt64 &&& 63)) : Int64).toInt32)]) (rest := []) ⟨hx, hb, hml, hown, hts⟩ (kX5_setReg l D cI cB a_mc a_me a_ps a_rg H.size v_fault v_rF x0 (((x1 >>> ((32 : Int32).toInt64 &&& 63)) : Int64).toInt32)) (cwV 2 hts (gd_V wd_83 wd_22 wd_23 wd_24 wd_6) rfl rfl rfl hdX5_setReg ⟨Nat.le_of_ble_eq_true rfl, Nat.le_of_ble_eq_true rfl⟩) (preV_std (ci := 5) (q0 := 0) hPc hK hDc hNW rfl rfl) rfl rfl hl.1 rfl (lv_room (Nat.le_of_ble_eq_true rfl)) dX5_setPair_7 ⟨Nat.zero_le _, Nat.zero_le _⟩) hS (fun q _ h => hFc q h) hFc (fun u_7 t9 H1 locs ht9 hvm9 hw9 hB9 hz9 hk9 hS => ?_)
  have eu_7 : u_7 = fX5_setReg x0 (((x1 >>> ((32 : Int32).toInt64 &&& 63)) : Int64).toInt32) v_rF := hw9
  obtain ⟨hP, hD⟩ := back_std (w1 := (wX5_setReg cI cB a_mc a_me a_ps a_rg v_fault u_7)) (w2 := (wX5_setPair cI cB a_mc a_me a_ps a_rg v_fault u_7)) (wr := []) hP hD [0, 1] [] [0, 1] rfl rfl (by decide) (by decide) hk9 hFc hB9 ht9 (by decide) rfl
  clear hB9 hk9 hz9 hvm9 ht9 hFc hPc hDc
  generalize H1 = H at hP hS ⊢
  refine lv_aload_n hx hb dX5_setPair_10 rfl (lv_at hl 0 rfl) ?_
  refine lv_iload_n hx hb dX5_setPair_11 rfl (lv_at hl 1 rfl) ?_
  refine lv_iconst (v := 1) hx hb dX5_setPair_12 (by decide) ?_
  refine lv_iadd hx hb dX5_setPair_13 ?_
  refine lv_lload_n hx hb dX5_setPair_14 rfl (lv_at hl 2 rfl) ?_
  refine lv_l2i hx hb dX5_setPair_15 rfl ?_
  have hPc : va_P D vwCl (wX5_setReg cI cB a_mc a_me a_ps a_rg v_fault u_7) H := hP.sub [0, 1] rfl
  have hDc : va_D A (wX5_setReg cI cB a_mc a_me a_ps a_rg v_fault u_7) := hD.sub [0, 1] (by decide) rfl
  have hFc := va_free (wc := (wX5_setReg cI cB a_mc a_me a_ps a_rg v_fault u_7)) hD hS hA [0, 1] rfl
  refine va_callv (va_runV (As := [.int (x0 + 1), .int (x1 : Int64).toInt32]) (rest := []) ⟨hx, hb, hml, hown, hts⟩ (kX5_setReg l D cI cB a_mc a_me a_ps a_rg H.size v_fault u_7 (x0 + 1) ((x1 : Int64).toInt32)) (cwV 2 hts (gd_V wd_83 wd_22 wd_23 wd_24 wd_6) rfl rfl rfl hdX5_setReg ⟨Nat.le_of_ble_eq_true rfl, Nat.le_of_ble_eq_true rfl⟩) (preV_std (ci := 5) (q0 := 0) hPc hK hDc hNW rfl rfl) rfl rfl hl.1 rfl (lv_room (Nat.le_of_ble_eq_true rfl)) dX5_setPair_16 ⟨Nat.zero_le _, Nat.zero_le _⟩) hS (fun q _ h => hFc q h) hFc (fun u_16 t9 H1 locs ht9 hvm9 hw9 hB9 hz9 hk9 hS => ?_)
  have eu_16 : u_16 = fX5_setReg (x0 + 1) ((x1 : Int64).toInt32) u_7 := hw9
  obtain ⟨hP, hD⟩ := back_std (w1 := (wX5_setReg cI cB a_mc a_me a_ps a_rg v_fault u_16)) (w2 := (wX5_setPair cI cB a_mc a_me a_ps a_rg v_fault u_16)) (wr := []) hP hD [0, 1] [] [0, 1] rfl rfl (by decide) (by decide) hk9 hFc hB9 ht9 (by decide) rfl
  clear hB9 hk9 hz9 hvm9 ht9 hFc hPc hDc
  generalize H1 = H at hP hS ⊢
  have hf9 : u_16 = fX5_setPair x0 x1 v_rF := by simp only [fX5_setPair, ← eu_7, ← eu_16]
  exact W.vret hx hb hr (fun t9 ht9 hW9 => ⟨⟨u_16, rfl, hf9, ⟨by rw [ht9]; exact hP, va_K.moved hW9.alike hK, hD⟩⟩, hS.F ht9⟩) hS.2.2 dX5_setPair_19
theorem hdX5_setPair : yX5_setPair.cls = RX5 ∧ yX5_setPair.cls ≠ "java/lang/invoke/MethodHandle" ∧ yX5_setPair.cls ≠ "java/lang/invoke/VarHandle" ∧ (parseMethodDescriptor yX5_setPair.desc).map (fun d => d.parameters.length) = some 2 := by decide +kernel
noncomputable def fX5_setLastByte (x0 : Int32) (x1 : Int32) (v_rF : (Nat → Int32)) : (Nat → Int32) :=
  let r_4 := fX5_reg x0 v_rF
  let u_17 := fX5_setReg x0 ((r_4 &&& (-256)) ||| (x1 &&& 255)) v_rF
  u_17
abbrev wX5_setLastByte (cI cB : ClassId) (a_mc a_me a_ps a_rg : Nat) (v_fault : Int32) (v_rF : (Nat → Int32)) : va_W := [(a_mc, .inr (5, [.ref a_me, .ref a_ps, .ref a_rg, .int v_fault])), (a_rg, .inl (cI, 16, .inl v_rF))]
abbrev rmX5_setLastByte : Room := { frames := 1, cells := 0, slots := 0, locals := 22 }
abbrev qX5_setLastByte (D : va_G) (cI cB : ClassId) (a_mc a_me a_ps a_rg : Nat) (v_fault : Int32) (v_rF : (Nat → Int32)) (x0 : Int32) (x1 : Int32) : (Nat → Prop) → Array Value → State → Outcome → State → Prop := fun A9 => va_Qv (fun (u9 : (Nat → Int32)) => u9 = fX5_setLastByte x0 x1 v_rF) (fun u9 t9 => atW D (TYS cI cB) A9 (wX5_setLastByte cI cB a_mc a_me a_ps a_rg v_fault u9) t9) A9
set_option maxHeartbeats 4000000 in
set_option maxRecDepth 100000 in
theorem kX5_setLastByte (l : Launch) (D : va_G) (cI cB : ClassId) (a_mc a_me a_ps a_rg : Nat) (sz : Nat) (v_fault : Int32) (v_rF : (Nat → Int32)) (x0 : Int32) (x1 : Int32) : MetW l yX5_setLastByte (WK yX5_setLastByte cX5_setLastByte 3 none) rmX5_setLastByte D (TYS cI cB) (wX5_setLastByte cI cB a_mc a_me a_ps a_rg v_fault v_rF) sz [.ref a_mc, .int x0, .int x1] (qX5_setLastByte D cI cB a_mc a_me a_ps a_rg v_fault v_rF x0 x1) 0 0 := by
  refine met_std (by decide) rfl (Nat.le_of_ble_eq_true rfl) ?_
  intro p e s m below meth c A ls H hx hb hr hml hown hts hlocks hA hP hK hD hS hNW hl
  have hl : lv_has ls 3 [(0, .ref a_mc), (1, .int x0), (2, .int x1)] := hl
  refine lv_aload_n hx hb dX5_setLastByte_0 rfl (lv_at hl 0 rfl) ?_
  refine lv_iload_n hx hb dX5_setLastByte_1 rfl (lv_at hl 1 rfl) ?_
  refine lv_aload_n hx hb dX5_setLastByte_2 rfl (lv_at hl 0 rfl) ?_
  refine lv_iload_n hx hb dX5_setLastByte_3 rfl (lv_at hl 1 rfl) ?_
  have hPc : va_P D vwCl (wX5_reg cI cB a_mc a_me a_ps a_rg v_fault v_rF) H := hP.sub [0, 1] rfl
  have hDc : va_D A (wX5_reg cI cB a_mc a_me a_ps a_rg v_fault v_rF) := hD.sub [0, 1] (by decide) rfl
  have hFc := va_free (wc := (wX5_reg cI cB a_mc a_me a_ps a_rg v_fault v_rF)) hD hS hA [0, 1] rfl
  refine va_calli (va_runV (As := [.int x0]) (rest := [.int x0, .ref a_mc]) ⟨hx, hb, hml, hown, hts⟩ (kX5_reg l D cI cB a_mc a_me a_ps a_rg H.size v_fault v_rF x0) (cwV 1 hts (gd_V wd_82 wd_31 wd_32 wd_24 wd_29) rfl rfl rfl hdX5_reg ⟨Nat.le_of_ble_eq_true rfl, Nat.le_of_ble_eq_true rfl⟩) (preV_std (ci := 5) (q0 := 0) hPc hK hDc hNW rfl rfl) rfl rfl hl.1 rfl (lv_room (Nat.le_of_ble_eq_true rfl)) dX5_setLastByte_4 ⟨Nat.zero_le _, Nat.zero_le _⟩) hS (fun q _ h => hFc q h) hFc (fun r_4 u_4 t9 H1 locs ht9 hvm9 hw9 hB9 hz9 hk9 hS => ?_)
  have er_4 : r_4 = fX5_reg x0 v_rF := hw9
  obtain ⟨hP, hD⟩ := back_std (w1 := (wX5_reg cI cB a_mc a_me a_ps a_rg v_fault v_rF)) (w2 := (wX5_setLastByte cI cB a_mc a_me a_ps a_rg v_fault v_rF)) (wr := []) hP hD [0, 1] [] [0, 1] rfl rfl (by decide) (by decide) hk9 hFc hB9 ht9 (by decide) rfl
  clear hB9 hk9 hz9 hvm9 ht9 hFc hPc hDc
  generalize H1 = H at hP hS ⊢
  refine lv_sipush (v := (-256)) hx hb dX5_setLastByte_7 (by decide) ?_
  refine lv_iand hx hb dX5_setLastByte_10 ?_
  refine lv_iload_n hx hb dX5_setLastByte_11 rfl (lv_at hl 2 rfl) ?_
  refine lv_sipush (v := 255) hx hb dX5_setLastByte_12 (by decide) ?_
  refine lv_iand hx hb dX5_setLastByte_15 ?_
  refine lv_ior hx hb dX5_setLastByte_16 ?_
  have hPc : va_P D vwCl (wX5_setReg cI cB a_mc a_me a_ps a_rg v_fault v_rF) H := hP.sub [0, 1] rfl
  have hDc : va_D A (wX5_setReg cI cB a_mc a_me a_ps a_rg v_fault v_rF) := hD.sub [0, 1] (by decide) rfl
  have hFc := va_free (wc := (wX5_setReg cI cB a_mc a_me a_ps a_rg v_fault v_rF)) hD hS hA [0, 1] rfl
  refine va_callv (va_runV (As := [.int x0, .int (((r_4 &&& (-256)) ||| (x1 &&& 255)))]) (rest := []) ⟨hx, hb, hml, hown, hts⟩ (kX5_setReg l D cI cB a_mc a_me a_ps a_rg H.size v_fault v_rF x0 ((r_4 &&& (-256)) ||| (x1 &&& 255))) (cwV 2 hts (gd_V wd_83 wd_22 wd_23 wd_24 wd_6) rfl rfl rfl hdX5_setReg ⟨Nat.le_of_ble_eq_true rfl, Nat.le_of_ble_eq_true rfl⟩) (preV_std (ci := 5) (q0 := 0) hPc hK hDc hNW rfl rfl) rfl rfl hl.1 rfl (lv_room (Nat.le_of_ble_eq_true rfl)) dX5_setLastByte_17 ⟨Nat.zero_le _, Nat.zero_le _⟩) hS (fun q _ h => hFc q h) hFc (fun u_17 t9 H1 locs ht9 hvm9 hw9 hB9 hz9 hk9 hS => ?_)
  have eu_17 : u_17 = fX5_setReg x0 ((r_4 &&& (-256)) ||| (x1 &&& 255)) v_rF := hw9
  obtain ⟨hP, hD⟩ := back_std (w1 := (wX5_setReg cI cB a_mc a_me a_ps a_rg v_fault u_17)) (w2 := (wX5_setLastByte cI cB a_mc a_me a_ps a_rg v_fault u_17)) (wr := []) hP hD [0, 1] [] [0, 1] rfl rfl (by decide) (by decide) hk9 hFc hB9 ht9 (by decide) rfl
  clear hB9 hk9 hz9 hvm9 ht9 hFc hPc hDc
  generalize H1 = H at hP hS ⊢
  have hf9 : u_17 = fX5_setLastByte x0 x1 v_rF := by simp only [fX5_setLastByte, ← er_4, ← eu_17]
  exact W.vret hx hb hr (fun t9 ht9 hW9 => ⟨⟨u_17, rfl, hf9, ⟨by rw [ht9]; exact hP, va_K.moved hW9.alike hK, hD⟩⟩, hS.F ht9⟩) hS.2.2 dX5_setLastByte_20
theorem hdX5_setLastByte : yX5_setLastByte.cls = RX5 ∧ yX5_setLastByte.cls ≠ "java/lang/invoke/MethodHandle" ∧ yX5_setLastByte.cls ≠ "java/lang/invoke/VarHandle" ∧ (parseMethodDescriptor yX5_setLastByte.desc).map (fun d => d.parameters.length) = some 2 := by decide +kernel
noncomputable def fX5_setLastAddress (x0 : Int32) (x1 : Int32) (v_rF : (Nat → Int32)) : (Nat → Int32) :=
  let r_4 := fX5_reg x0 v_rF
  let u_15 := fX5_setReg x0 ((r_4 &&& (-16777216)) ||| (x1 &&& 16777215)) v_rF
  u_15
abbrev wX5_setLastAddress (cI cB : ClassId) (a_mc a_me a_ps a_rg : Nat) (v_fault : Int32) (v_rF : (Nat → Int32)) : va_W := [(a_mc, .inr (5, [.ref a_me, .ref a_ps, .ref a_rg, .int v_fault])), (a_rg, .inl (cI, 16, .inl v_rF))]
abbrev rmX5_setLastAddress : Room := { frames := 1, cells := 0, slots := 0, locals := 22 }
abbrev qX5_setLastAddress (D : va_G) (cI cB : ClassId) (a_mc a_me a_ps a_rg : Nat) (v_fault : Int32) (v_rF : (Nat → Int32)) (x0 : Int32) (x1 : Int32) : (Nat → Prop) → Array Value → State → Outcome → State → Prop := fun A9 => va_Qv (fun (u9 : (Nat → Int32)) => u9 = fX5_setLastAddress x0 x1 v_rF) (fun u9 t9 => atW D (TYS cI cB) A9 (wX5_setLastAddress cI cB a_mc a_me a_ps a_rg v_fault u9) t9) A9
set_option maxHeartbeats 4000000 in
set_option maxRecDepth 100000 in
theorem kX5_setLastAddress (l : Launch) (D : va_G) (cI cB : ClassId) (a_mc a_me a_ps a_rg : Nat) (sz : Nat) (v_fault : Int32) (v_rF : (Nat → Int32)) (x0 : Int32) (x1 : Int32) : MetW l yX5_setLastAddress (WK yX5_setLastAddress cX5_setLastAddress 3 none) rmX5_setLastAddress D (TYS cI cB) (wX5_setLastAddress cI cB a_mc a_me a_ps a_rg v_fault v_rF) sz [.ref a_mc, .int x0, .int x1] (qX5_setLastAddress D cI cB a_mc a_me a_ps a_rg v_fault v_rF x0 x1) 0 0 := by
  refine met_std (by decide) rfl (Nat.le_of_ble_eq_true rfl) ?_
  intro p e s m below meth c A ls H hx hb hr hml hown hts hlocks hA hP hK hD hS hNW hl
  have hl : lv_has ls 3 [(0, .ref a_mc), (1, .int x0), (2, .int x1)] := hl
  have q_0 := hts _ (List.mem_cons_of_mem _ wd_311)
  have q_1 := hts _ (List.mem_cons_of_mem _ wd_94)
  refine lv_aload_n hx hb dX5_setLastAddress_0 rfl (lv_at hl 0 rfl) ?_
  refine lv_iload_n hx hb dX5_setLastAddress_1 rfl (lv_at hl 1 rfl) ?_
  refine lv_aload_n hx hb dX5_setLastAddress_2 rfl (lv_at hl 0 rfl) ?_
  refine lv_iload_n hx hb dX5_setLastAddress_3 rfl (lv_at hl 1 rfl) ?_
  have hPc : va_P D vwCl (wX5_reg cI cB a_mc a_me a_ps a_rg v_fault v_rF) H := hP.sub [0, 1] rfl
  have hDc : va_D A (wX5_reg cI cB a_mc a_me a_ps a_rg v_fault v_rF) := hD.sub [0, 1] (by decide) rfl
  have hFc := va_free (wc := (wX5_reg cI cB a_mc a_me a_ps a_rg v_fault v_rF)) hD hS hA [0, 1] rfl
  refine va_calli (va_runV (As := [.int x0]) (rest := [.int x0, .ref a_mc]) ⟨hx, hb, hml, hown, hts⟩ (kX5_reg l D cI cB a_mc a_me a_ps a_rg H.size v_fault v_rF x0) (cwV 1 hts (gd_V wd_82 wd_31 wd_32 wd_24 wd_29) rfl rfl rfl hdX5_reg ⟨Nat.le_of_ble_eq_true rfl, Nat.le_of_ble_eq_true rfl⟩) (preV_std (ci := 5) (q0 := 0) hPc hK hDc hNW rfl rfl) rfl rfl hl.1 rfl (lv_room (Nat.le_of_ble_eq_true rfl)) dX5_setLastAddress_4 ⟨Nat.zero_le _, Nat.zero_le _⟩) hS (fun q _ h => hFc q h) hFc (fun r_4 u_4 t9 H1 locs ht9 hvm9 hw9 hB9 hz9 hk9 hS => ?_)
  have er_4 : r_4 = fX5_reg x0 v_rF := hw9
  obtain ⟨hP, hD⟩ := back_std (w1 := (wX5_reg cI cB a_mc a_me a_ps a_rg v_fault v_rF)) (w2 := (wX5_setLastAddress cI cB a_mc a_me a_ps a_rg v_fault v_rF)) (wr := []) hP hD [0, 1] [] [0, 1] rfl rfl (by decide) (by decide) hk9 hFc hB9 ht9 (by decide) rfl
  clear hB9 hk9 hz9 hvm9 ht9 hFc hPc hDc
  generalize H1 = H at hP hS ⊢
  refine lv_ldc (v := (-16777216)) hx hb hown q_0 dX5_setLastAddress_7 ?_
  refine lv_iand hx hb dX5_setLastAddress_9 ?_
  refine lv_iload_n hx hb dX5_setLastAddress_10 rfl (lv_at hl 2 rfl) ?_
  refine lv_ldc (v := 16777215) hx hb hown q_1 dX5_setLastAddress_11 ?_
  refine lv_iand hx hb dX5_setLastAddress_13 ?_
  refine lv_ior hx hb dX5_setLastAddress_14 ?_
  have hPc : va_P D vwCl (wX5_setReg cI cB a_mc a_me a_ps a_rg v_fault v_rF) H := hP.sub [0, 1] rfl
  have hDc : va_D A (wX5_setReg cI cB a_mc a_me a_ps a_rg v_fault v_rF) := hD.sub [0, 1] (by decide) rfl
  have hFc := va_free (wc := (wX5_setReg cI cB a_mc a_me a_ps a_rg v_fault v_rF)) hD hS hA [0, 1] rfl
  refine va_callv (va_runV (As := [.int x0, .int (((r_4 &&& (-16777216)) ||| (x1 &&& 16777215)))]) (rest := []) ⟨hx, hb, hml, hown, hts⟩ (kX5_setReg l D cI cB a_mc a_me a_ps a_rg H.size v_fault v_rF x0 ((r_4 &&& (-16777216)) ||| (x1 &&& 16777215))) (cwV 2 hts (gd_V wd_83 wd_22 wd_23 wd_24 wd_6) rfl rfl rfl hdX5_setReg ⟨Nat.le_of_ble_eq_true rfl, Nat.le_of_ble_eq_true rfl⟩) (preV_std (ci := 5) (q0 := 0) hPc hK hDc hNW rfl rfl) rfl rfl hl.1 rfl (lv_room (Nat.le_of_ble_eq_true rfl)) dX5_setLastAddress_15 ⟨Nat.zero_le _, Nat.zero_le _⟩) hS (fun q _ h => hFc q h) hFc (fun u_15 t9 H1 locs ht9 hvm9 hw9 hB9 hz9 hk9 hS => ?_)
  have eu_15 : u_15 = fX5_setReg x0 ((r_4 &&& (-16777216)) ||| (x1 &&& 16777215)) v_rF := hw9
  obtain ⟨hP, hD⟩ := back_std (w1 := (wX5_setReg cI cB a_mc a_me a_ps a_rg v_fault u_15)) (w2 := (wX5_setLastAddress cI cB a_mc a_me a_ps a_rg v_fault u_15)) (wr := []) hP hD [0, 1] [] [0, 1] rfl rfl (by decide) (by decide) hk9 hFc hB9 ht9 (by decide) rfl
  clear hB9 hk9 hz9 hvm9 ht9 hFc hPc hDc
  generalize H1 = H at hP hS ⊢
  have hf9 : u_15 = fX5_setLastAddress x0 x1 v_rF := by simp only [fX5_setLastAddress, ← er_4, ← eu_15]
  exact W.vret hx hb hr (fun t9 ht9 hW9 => ⟨⟨u_15, rfl, hf9, ⟨by rw [ht9]; exact hP, va_K.moved hW9.alike hK, hD⟩⟩, hS.F ht9⟩) hS.2.2 dX5_setLastAddress_18
theorem hdX5_setLastAddress : yX5_setLastAddress.cls = RX5 ∧ yX5_setLastAddress.cls ≠ "java/lang/invoke/MethodHandle" ∧ yX5_setLastAddress.cls ≠ "java/lang/invoke/VarHandle" ∧ (parseMethodDescriptor yX5_setLastAddress.desc).map (fun d => d.parameters.length) = some 2 := by decide +kernel
noncomputable def fX5_fine (v_fault : Int32) : Int32 :=
  if v_fault = 0 then (1) else (0)
theorem zX5_fine (v_fault : Int32) : (fX5_fine v_fault) = 0 ∨ (fX5_fine v_fault) = 1 := by unfold fX5_fine; (repeat' split) <;> first | exact Or.inl rfl | exact Or.inr rfl
abbrev wX5_fine (cI cB : ClassId) (a_mc a_me a_ps a_rg : Nat) (v_fault : Int32) : va_W := [(a_mc, .inr (5, [.ref a_me, .ref a_ps, .ref a_rg, .int v_fault]))]
abbrev rmX5_fine : Room := { frames := 0, cells := 0, slots := 0, locals := 0 }
abbrev qX5_fine (D : va_G) (cI cB : ClassId) (a_mc a_me a_ps a_rg : Nat) (v_fault : Int32) : (Nat → Prop) → Array Value → State → Outcome → State → Prop := fun A9 => va_Qi (fun (r9 : Int32) (u9 : Unit) => r9 = fX5_fine v_fault) (fun u9 t9 => atW D (TYS cI cB) A9 (wX5_fine cI cB a_mc a_me a_ps a_rg v_fault) t9) A9
set_option maxHeartbeats 4000000 in
set_option maxRecDepth 100000 in
theorem kX5_fine (l : Launch) (D : va_G) (cI cB : ClassId) (a_mc a_me a_ps a_rg : Nat) (sz : Nat) (v_fault : Int32) : MetW l yX5_fine (WK yX5_fine cX5_fine 1 (some .boolean)) rmX5_fine D (TYS cI cB) (wX5_fine cI cB a_mc a_me a_ps a_rg v_fault) sz [.ref a_mc] (qX5_fine D cI cB a_mc a_me a_ps a_rg v_fault) 0 0 := by
  refine met_std (by decide) rfl (Nat.le_of_ble_eq_true rfl) ?_
  intro p e s m below meth c A ls H hx hb hr hml hown hts hlocks hA hP hK hD hS hNW hl
  have hl : lv_has ls 1 [(0, .ref a_mc)] := hl
  have q_0 := hts _ (List.mem_cons_of_mem _ wd_47)
  refine lv_aload_n hx hb dX5_fine_0 rfl (lv_at hl 0 rfl) ?_
  refine va_get (D := D) (ci := 5) (v := .int v_fault) (C := RX5) (T := TX5) (N := 4) hx hb hts in_X5 hown hK hP 0 rfl rfl 3 (by decide) q_0 (fun _ h9 => h9) rfl dX5_fine_1 ?_
  refine lv_if_ne (tgt := 11) hx hb dX5_fine_4 (by decide) (fun c_4 => ?_) (fun c_4 => ?_)
  · skip
    refine lv_iconst (v := 0) hx hb dX5_fine_11 (by decide) ?_
    have hf9 : 0 = fX5_fine v_fault := by simp only [fX5_fine, if_neg c_4]
    exact W.zret hx hb hr (by decide) (fun t9 ht9 hW9 => ⟨⟨0, (), rfl, hf9, ⟨by rw [ht9]; exact hP, va_K.moved hW9.alike hK, hD⟩⟩, hS.F ht9⟩) hS.2.2 dX5_fine_12
  · skip
    refine lv_iconst (v := 1) hx hb dX5_fine_7 (by decide) ?_
    refine lv_goto (tgt := 12) hx hb dX5_fine_8 (by decide) ?_
    have hf9 : 1 = fX5_fine v_fault := by simp only [fX5_fine, if_pos c_4]
    exact W.zret hx hb hr (by decide) (fun t9 ht9 hW9 => ⟨⟨1, (), rfl, hf9, ⟨by rw [ht9]; exact hP, va_K.moved hW9.alike hK, hD⟩⟩, hS.F ht9⟩) hS.2.2 dX5_fine_12
theorem hdX5_fine : yX5_fine.cls = RX5 ∧ yX5_fine.cls ≠ "java/lang/invoke/MethodHandle" ∧ yX5_fine.cls ≠ "java/lang/invoke/VarHandle" ∧ (parseMethodDescriptor yX5_fine.desc).map (fun d => d.parameters.length) = some 0 := by decide +kernel
noncomputable def fX5_fail (x0 : Int32) (v_fault : Int32) : Int32 :=
  if x0 = 0 then (v_fault) else (if v_fault = 0 then (x0) else (if v_fault ≤ x0 then (v_fault) else (x0)))
abbrev wX5_fail (cI cB : ClassId) (a_mc a_me a_ps a_rg : Nat) (v_fault : Int32) : va_W := [(a_mc, .inr (5, [.ref a_me, .ref a_ps, .ref a_rg, .int v_fault]))]
abbrev rmX5_fail : Room := { frames := 0, cells := 0, slots := 0, locals := 0 }
abbrev qX5_fail (D : va_G) (cI cB : ClassId) (a_mc a_me a_ps a_rg : Nat) (v_fault : Int32) (x0 : Int32) : (Nat → Prop) → Array Value → State → Outcome → State → Prop := fun A9 => va_Qv (fun (u9 : Int32) => u9 = fX5_fail x0 v_fault) (fun u9 t9 => atW D (TYS cI cB) A9 (wX5_fail cI cB a_mc a_me a_ps a_rg u9) t9) A9
set_option maxHeartbeats 4000000 in
set_option maxRecDepth 100000 in
theorem kX5_fail (l : Launch) (D : va_G) (cI cB : ClassId) (a_mc a_me a_ps a_rg : Nat) (sz : Nat) (v_fault : Int32) (x0 : Int32) : MetW l yX5_fail (WK yX5_fail cX5_fail 2 none) rmX5_fail D (TYS cI cB) (wX5_fail cI cB a_mc a_me a_ps a_rg v_fault) sz [.ref a_mc, .int x0] (qX5_fail D cI cB a_mc a_me a_ps a_rg v_fault x0) 0 0 := by
  refine met_std (by decide) rfl (Nat.le_of_ble_eq_true rfl) ?_
  intro p e s m below meth c A ls H hx hb hr hml hown hts hlocks hA hP hK hD hS hNW hl
  have hl : lv_has ls 2 [(0, .ref a_mc), (1, .int x0)] := hl
  have q_0 := hts _ (List.mem_cons_of_mem _ wd_47)
  refine lv_iload_n hx hb dX5_fail_0 rfl (lv_at hl 1 rfl) ?_
  refine lv_if_eq (tgt := 24) hx hb dX5_fail_1 (by decide) (fun c_1 => ?_) (fun c_1 => ?_)
  · skip
    have hf9 : v_fault = fX5_fail x0 v_fault := by simp only [fX5_fail, if_pos c_1]
    exact W.vret hx hb hr (fun t9 ht9 hW9 => ⟨⟨v_fault, rfl, hf9, ⟨by rw [ht9]; exact hP, va_K.moved hW9.alike hK, hD⟩⟩, hS.F ht9⟩) hS.2.2 dX5_fail_24
  · skip
    refine lv_aload_n hx hb dX5_fail_4 rfl (lv_at hl 0 rfl) ?_
    refine va_get (D := D) (ci := 5) (v := .int v_fault) (C := RX5) (T := TX5) (N := 4) hx hb hts in_X5 hown hK hP 0 rfl rfl 3 (by decide) q_0 (fun _ h9 => h9) rfl dX5_fail_5 ?_
    refine lv_if_eq (tgt := 19) hx hb dX5_fail_8 (by decide) (fun c_8 => ?_) (fun c_8 => ?_)
    · skip
      refine lv_aload_n hx hb dX5_fail_19 rfl (lv_at hl 0 rfl) ?_
      refine lv_iload_n hx hb dX5_fail_20 rfl (lv_at hl 1 rfl) ?_
      refine va_put (D := D) (ci := 5) (v := .int x0) (ty := .int) (C := RX5) (T := TX5) (N := 4) hx hb hts in_X5 tyX5 tyX5_ok nmX5 hown hK hP hD hS 0 rfl rfl 3 (by decide) q_0 (fun _ h9 => h9) rfl (by decide +kernel) rfl rfl (Nat.le_of_ble_eq_true rfl) dX5_fail_21 (fun H locs hP hD hS => ?_)
      have hP : va_P D vwCl (wX5_fail cI cB a_mc a_me a_ps a_rg x0) H := hP
      have hD : va_D A (wX5_fail cI cB a_mc a_me a_ps a_rg x0) := hD
      have hf9 : x0 = fX5_fail x0 v_fault := by simp only [fX5_fail, if_neg c_1, if_pos c_8]
      exact W.vret hx hb hr (fun t9 ht9 hW9 => ⟨⟨x0, rfl, hf9, ⟨by rw [ht9]; exact hP, va_K.moved hW9.alike hK, hD⟩⟩, hS.F ht9⟩) hS.2.2 dX5_fail_24
    · skip
      refine lv_iload_n hx hb dX5_fail_11 rfl (lv_at hl 1 rfl) ?_
      refine lv_aload_n hx hb dX5_fail_12 rfl (lv_at hl 0 rfl) ?_
      refine va_get (D := D) (ci := 5) (v := .int v_fault) (C := RX5) (T := TX5) (N := 4) hx hb hts in_X5 hown hK hP 0 rfl rfl 3 (by decide) q_0 (fun _ h9 => h9) rfl dX5_fail_13 ?_
      refine lv_icmp_ge (tgt := 24) hx hb dX5_fail_16 (by decide) (fun c_16 => ?_) (fun c_16 => ?_)
      · skip
        have hf9 : v_fault = fX5_fail x0 v_fault := by simp only [fX5_fail, if_neg c_1, if_neg c_8, if_pos c_16]
        exact W.vret hx hb hr (fun t9 ht9 hW9 => ⟨⟨v_fault, rfl, hf9, ⟨by rw [ht9]; exact hP, va_K.moved hW9.alike hK, hD⟩⟩, hS.F ht9⟩) hS.2.2 dX5_fail_24
      · skip
        refine lv_aload_n hx hb dX5_fail_19 rfl (lv_at hl 0 rfl) ?_
        refine lv_iload_n hx hb dX5_fail_20 rfl (lv_at hl 1 rfl) ?_
        refine va_put (D := D) (ci := 5) (v := .int x0) (ty := .int) (C := RX5) (T := TX5) (N := 4) hx hb hts in_X5 tyX5 tyX5_ok nmX5 hown hK hP hD hS 0 rfl rfl 3 (by decide) q_0 (fun _ h9 => h9) rfl (by decide +kernel) rfl rfl (Nat.le_of_ble_eq_true rfl) dX5_fail_21 (fun H locs hP hD hS => ?_)
        have hP : va_P D vwCl (wX5_fail cI cB a_mc a_me a_ps a_rg x0) H := hP
        have hD : va_D A (wX5_fail cI cB a_mc a_me a_ps a_rg x0) := hD
        have hf9 : x0 = fX5_fail x0 v_fault := by simp only [fX5_fail, if_neg c_1, if_neg c_8, if_neg c_16]
        exact W.vret hx hb hr (fun t9 ht9 hW9 => ⟨⟨x0, rfl, hf9, ⟨by rw [ht9]; exact hP, va_K.moved hW9.alike hK, hD⟩⟩, hS.F ht9⟩) hS.2.2 dX5_fail_24
theorem hdX5_fail : yX5_fail.cls = RX5 ∧ yX5_fail.cls ≠ "java/lang/invoke/MethodHandle" ∧ yX5_fail.cls ≠ "java/lang/invoke/VarHandle" ∧ (parseMethodDescriptor yX5_fail.desc).map (fun d => d.parameters.length) = some 1 := by decide +kernel
noncomputable def fX5_demand (x0 : Int32) (x1 : Int32) (x2 : Int32) (v_fault : Int32) (v_word : Int64) (v_kF : (Nat → Int32)) : Int32 :=
  let x_8 := (((x0 + x1) - 1) &&& 16777215)
  let r_21 := fX7_protectionKey v_word
  let r_24 := fX6_refusal x0 x2 r_21 v_kF
  let u_27 := fX5_fail r_24 v_fault
  let r_42 := fX7_protectionKey v_word
  let r_45 := fX6_refusal x_8 x2 r_21 v_kF
  let u_48 := fX5_fail r_45 u_27
  u_48
abbrev wX5_demand (cI cB : ClassId) (a_mc a_me a_ps a_by a_ks a_rg : Nat) (v_fault : Int32) (v_word : Int64) (v_kF : (Nat → Int32)) : va_W := [(a_mc, .inr (5, [.ref a_me, .ref a_ps, .ref a_rg, .int v_fault])), (a_me, .inr (6, [.ref a_by, .ref a_ks])), (a_ps, .inr (7, [.long v_word])), (a_ks, .inl (cI, 4, .inl v_kF))]
abbrev rmX5_demand : Room := { frames := 1, cells := 0, slots := 0, locals := 25 }
abbrev qX5_demand (D : va_G) (cI cB : ClassId) (a_mc a_me a_ps a_by a_ks a_rg : Nat) (v_fault : Int32) (v_word : Int64) (v_kF : (Nat → Int32)) (x0 : Int32) (x1 : Int32) (x2 : Int32) : (Nat → Prop) → Array Value → State → Outcome → State → Prop := fun A9 => va_Qv (fun (u9 : Int32) => u9 = fX5_demand x0 x1 x2 v_fault v_word v_kF) (fun u9 t9 => atW D (TYS cI cB) A9 (wX5_demand cI cB a_mc a_me a_ps a_by a_ks a_rg u9 v_word v_kF) t9) A9
set_option maxHeartbeats 4000000 in
set_option maxRecDepth 100000 in
theorem kX5_demand (l : Launch) (D : va_G) (cI cB : ClassId) (a_mc a_me a_ps a_by a_ks a_rg : Nat) (sz : Nat) (v_fault : Int32) (v_word : Int64) (v_kF : (Nat → Int32)) (x0 : Int32) (x1 : Int32) (x2 : Int32) : MetW l yX5_demand (WK yX5_demand cX5_demand 5 none) rmX5_demand D (TYS cI cB) (wX5_demand cI cB a_mc a_me a_ps a_by a_ks a_rg v_fault v_word v_kF) sz [.ref a_mc, .int x0, .int x1, .int x2] (qX5_demand D cI cB a_mc a_me a_ps a_by a_ks a_rg v_fault v_word v_kF x0 x1 x2) 0 0 := by
  refine met_std (by decide) rfl (Nat.le_of_ble_eq_true rfl) ?_
  intro p e s m below meth c A ls H hx hb hr hml hown hts hlocks hA hP hK hD hS hNW hl
  have hl : lv_has ls 5 [(0, .ref a_mc), (1, .int x0), (2, .int x1), (3, .int x2)] := hl
  have q_0 := hts _ (List.mem_cons_of_mem _ wd_94)
  have q_1 := hts _ (List.mem_cons_of_mem _ wd_95)
  have q_2 := hts _ (List.mem_cons_of_mem _ wd_49)
  refine lv_iload_n hx hb dX5_demand_0 rfl (lv_at hl 1 rfl) ?_
  refine lv_iload_n hx hb dX5_demand_1 rfl (lv_at hl 2 rfl) ?_
  refine lv_iadd hx hb dX5_demand_2 ?_
  refine lv_iconst (v := 1) hx hb dX5_demand_3 (by decide) ?_
  refine lv_isub hx hb dX5_demand_4 ?_
  refine lv_ldc (v := 16777215) hx hb hown q_0 dX5_demand_5 ?_
  refine lv_iand hx hb dX5_demand_7 ?_
  refine lv_topi (fun x_8 ex_8 => ?_)
  refine lv_istore (lv' := [(4, .int x_8), (0, .ref a_mc), (1, .int x0), (2, .int x1), (3, .int x2)]) hx hb dX5_demand_8 hl (by decide) rfl (fun ls hl => ?_)
  refine lv_aload_n hx hb dX5_demand_10 rfl (lv_at hl 1 rfl) ?_
  refine lv_aload_n hx hb dX5_demand_11 rfl (lv_at hl 1 rfl) ?_
  refine va_get (D := D) (ci := 5) (v := .ref a_me) (C := RX5) (T := TX5) (N := 4) hx hb hts in_X5 hown hK hP 0 rfl rfl 0 (by decide) q_1 (fun _ h9 => h9) rfl dX5_demand_12 ?_
  refine lv_iload_n hx hb dX5_demand_15 rfl (lv_at hl 2 rfl) ?_
  refine lv_iload_n hx hb dX5_demand_16 rfl (lv_at hl 4 rfl) ?_
  refine lv_aload_n hx hb dX5_demand_17 rfl (lv_at hl 1 rfl) ?_
  refine va_get (D := D) (ci := 5) (v := .ref a_ps) (C := RX5) (T := TX5) (N := 4) hx hb hts in_X5 hown hK hP 0 rfl rfl 1 (by decide) q_2 (fun _ h9 => h9) rfl dX5_demand_18 ?_
  have hPc : va_P D vwCl (wX7_protectionKey cI cB a_ps v_word) H := hP.sub [2] rfl
  have hDc : va_D A (wX7_protectionKey cI cB a_ps v_word) := hD.sub [2] (by decide) rfl
  have hFc := va_free (wc := (wX7_protectionKey cI cB a_ps v_word)) hD hS hA [2] rfl
  refine va_calli (va_runV (As := []) (rest := [.int x2, .int x0, .ref a_me, .ref a_mc]) ⟨hx, hb, hml, hown, hts⟩ (kX7_protectionKey l D cI cB a_ps H.size v_word ) (cwV 0 hts (gd_V wd_96 wd_97 wd_98 wd_15 wd_91) rfl rfl rfl hdX7_protectionKey ⟨Nat.le_of_ble_eq_true rfl, Nat.le_of_ble_eq_true rfl⟩) (preV_std (ci := 7) (q0 := 0) hPc hK hDc hNW rfl rfl) rfl rfl hl.1 rfl (lv_room (Nat.le_of_ble_eq_true rfl)) dX5_demand_21 ⟨Nat.zero_le _, Nat.zero_le _⟩) hS (fun q _ h => hFc q h) hFc (fun r_21 u_21 t9 H1 locs ht9 hvm9 hw9 hB9 hz9 hk9 hS => ?_)
  have er_21 : r_21 = fX7_protectionKey v_word := hw9
  obtain ⟨hP, hD⟩ := back_std (w1 := (wX7_protectionKey cI cB a_ps v_word)) (w2 := (wX5_demand cI cB a_mc a_me a_ps a_by a_ks a_rg v_fault v_word v_kF)) (wr := [(a_mc, .inr (5, [.ref a_me, .ref a_ps, .ref a_rg, .int v_fault])), (a_me, .inr (6, [.ref a_by, .ref a_ks])), (a_ks, .inl (cI, 4, .inl v_kF))]) hP hD [2] [0, 1, 3] [0, 1, 3, 2] rfl rfl (by decide) (by decide) hk9 hFc hB9 ht9 (by decide) rfl
  clear hB9 hk9 hz9 hvm9 ht9 hFc hPc hDc
  generalize H1 = H at hP hS ⊢
  have hPc : va_P D vwCl (wX6_refusal cI cB a_me a_by a_ks v_kF) H := hP.sub [1, 3] rfl
  have hDc : va_D A (wX6_refusal cI cB a_me a_by a_ks v_kF) := hD.sub [1, 3] (by decide) rfl
  have hFc := va_free (wc := (wX6_refusal cI cB a_me a_by a_ks v_kF)) hD hS hA [1, 3] rfl
  refine va_calli (va_runV (As := [.int x0, .int x2, .int r_21]) (rest := [.ref a_mc]) ⟨hx, hb, hml, hown, hts⟩ (kX6_refusal l D cI cB a_me a_by a_ks H.size v_kF x0 x2 r_21) (cwV 3 hts (gd_V wd_99 wd_100 wd_101 wd_78 wd_92) rfl rfl rfl hdX6_refusal ⟨Nat.le_of_ble_eq_true rfl, Nat.le_of_ble_eq_true rfl⟩) (preV_std (ci := 6) (q0 := 0) hPc hK hDc hNW rfl rfl) rfl rfl hl.1 rfl (lv_room (Nat.le_of_ble_eq_true rfl)) dX5_demand_24 ⟨Nat.zero_le _, Nat.zero_le _⟩) hS (fun q _ h => hFc q h) hFc (fun r_24 u_24 t9 H1 locs ht9 hvm9 hw9 hB9 hz9 hk9 hS => ?_)
  have er_24 : r_24 = fX6_refusal x0 x2 r_21 v_kF := hw9
  obtain ⟨hP, hD⟩ := back_std (w1 := (wX6_refusal cI cB a_me a_by a_ks v_kF)) (w2 := (wX5_demand cI cB a_mc a_me a_ps a_by a_ks a_rg v_fault v_word v_kF)) (wr := [(a_mc, .inr (5, [.ref a_me, .ref a_ps, .ref a_rg, .int v_fault])), (a_ps, .inr (7, [.long v_word]))]) hP hD [1, 3] [0, 2] [0, 2, 1, 3] rfl rfl (by decide) (by decide) hk9 hFc hB9 ht9 (by decide) rfl
  clear hB9 hk9 hz9 hvm9 ht9 hFc hPc hDc
  generalize H1 = H at hP hS ⊢
  have hPc : va_P D vwCl (wX5_fail cI cB a_mc a_me a_ps a_rg v_fault) H := hP.sub [0] rfl
  have hDc : va_D A (wX5_fail cI cB a_mc a_me a_ps a_rg v_fault) := hD.sub [0] (by decide) rfl
  have hFc := va_free (wc := (wX5_fail cI cB a_mc a_me a_ps a_rg v_fault)) hD hS hA [0] rfl
  refine va_callv (va_runV (As := [.int r_24]) (rest := []) ⟨hx, hb, hml, hown, hts⟩ (kX5_fail l D cI cB a_mc a_me a_ps a_rg H.size v_fault r_24) (cwV 1 hts (gd_V wd_53 wd_54 wd_55 wd_24 wd_46) rfl rfl rfl hdX5_fail ⟨Nat.le_of_ble_eq_true rfl, Nat.le_of_ble_eq_true rfl⟩) (preV_std (ci := 5) (q0 := 0) hPc hK hDc hNW rfl rfl) rfl rfl hl.1 rfl (lv_room (Nat.le_of_ble_eq_true rfl)) dX5_demand_27 ⟨Nat.zero_le _, Nat.zero_le _⟩) hS (fun q _ h => hFc q h) hFc (fun u_27 t9 H1 locs ht9 hvm9 hw9 hB9 hz9 hk9 hS => ?_)
  have eu_27 : u_27 = fX5_fail r_24 v_fault := hw9
  obtain ⟨hP, hD⟩ := back_std (w1 := (wX5_fail cI cB a_mc a_me a_ps a_rg u_27)) (w2 := (wX5_demand cI cB a_mc a_me a_ps a_by a_ks a_rg u_27 v_word v_kF)) (wr := [(a_me, .inr (6, [.ref a_by, .ref a_ks])), (a_ps, .inr (7, [.long v_word])), (a_ks, .inl (cI, 4, .inl v_kF))]) hP hD [0] [1, 2, 3] [3, 0, 1, 2] rfl rfl (by decide) (by decide) hk9 hFc hB9 ht9 (by decide) rfl
  clear hB9 hk9 hz9 hvm9 ht9 hFc hPc hDc
  generalize H1 = H at hP hS ⊢
  refine lv_aload_n hx hb dX5_demand_30 rfl (lv_at hl 1 rfl) ?_
  refine lv_aload_n hx hb dX5_demand_31 rfl (lv_at hl 1 rfl) ?_
  refine va_get (D := D) (ci := 5) (v := .ref a_me) (C := RX5) (T := TX5) (N := 4) hx hb hts in_X5 hown hK hP 0 rfl rfl 0 (by decide) q_1 (fun _ h9 => h9) rfl dX5_demand_32 ?_
  refine lv_iload hx hb dX5_demand_35 (lv_at hl 0 rfl) ?_
  refine lv_iload_n hx hb dX5_demand_37 rfl (lv_at hl 4 rfl) ?_
  refine lv_aload_n hx hb dX5_demand_38 rfl (lv_at hl 1 rfl) ?_
  refine va_get (D := D) (ci := 5) (v := .ref a_ps) (C := RX5) (T := TX5) (N := 4) hx hb hts in_X5 hown hK hP 0 rfl rfl 1 (by decide) q_2 (fun _ h9 => h9) rfl dX5_demand_39 ?_
  have hPc : va_P D vwCl (wX7_protectionKey cI cB a_ps v_word) H := hP.sub [2] rfl
  have hDc : va_D A (wX7_protectionKey cI cB a_ps v_word) := hD.sub [2] (by decide) rfl
  have hFc := va_free (wc := (wX7_protectionKey cI cB a_ps v_word)) hD hS hA [2] rfl
  refine va_calli (va_runV (As := []) (rest := [.int x2, .int x_8, .ref a_me, .ref a_mc]) ⟨hx, hb, hml, hown, hts⟩ (kX7_protectionKey l D cI cB a_ps H.size v_word ) (cwV 0 hts (gd_V wd_96 wd_97 wd_98 wd_15 wd_91) rfl rfl rfl hdX7_protectionKey ⟨Nat.le_of_ble_eq_true rfl, Nat.le_of_ble_eq_true rfl⟩) (preV_std (ci := 7) (q0 := 0) hPc hK hDc hNW rfl rfl) rfl rfl hl.1 rfl (lv_room (Nat.le_of_ble_eq_true rfl)) dX5_demand_42 ⟨Nat.zero_le _, Nat.zero_le _⟩) hS (fun q _ h => hFc q h) hFc (fun r_42 u_42 t9 H1 locs ht9 hvm9 hw9 hB9 hz9 hk9 hS => ?_)
  have er_42 : r_42 = fX7_protectionKey v_word := hw9
  obtain ⟨hP, hD⟩ := back_std (w1 := (wX7_protectionKey cI cB a_ps v_word)) (w2 := (wX5_demand cI cB a_mc a_me a_ps a_by a_ks a_rg u_27 v_word v_kF)) (wr := [(a_mc, .inr (5, [.ref a_me, .ref a_ps, .ref a_rg, .int u_27])), (a_me, .inr (6, [.ref a_by, .ref a_ks])), (a_ks, .inl (cI, 4, .inl v_kF))]) hP hD [2] [0, 1, 3] [0, 1, 3, 2] rfl rfl (by decide) (by decide) hk9 hFc hB9 ht9 (by decide) rfl
  clear hB9 hk9 hz9 hvm9 ht9 hFc hPc hDc
  generalize H1 = H at hP hS ⊢
  have hd9 : r_21 = r_42 := by rw [er_21, er_42]
  subst hd9
  have hPc : va_P D vwCl (wX6_refusal cI cB a_me a_by a_ks v_kF) H := hP.sub [1, 3] rfl
  have hDc : va_D A (wX6_refusal cI cB a_me a_by a_ks v_kF) := hD.sub [1, 3] (by decide) rfl
  have hFc := va_free (wc := (wX6_refusal cI cB a_me a_by a_ks v_kF)) hD hS hA [1, 3] rfl
  refine va_calli (va_runV (As := [.int x_8, .int x2, .int r_21]) (rest := [.ref a_mc]) ⟨hx, hb, hml, hown, hts⟩ (kX6_refusal l D cI cB a_me a_by a_ks H.size v_kF x_8 x2 r_21) (cwV 3 hts (gd_V wd_99 wd_100 wd_101 wd_78 wd_92) rfl rfl rfl hdX6_refusal ⟨Nat.le_of_ble_eq_true rfl, Nat.le_of_ble_eq_true rfl⟩) (preV_std (ci := 6) (q0 := 0) hPc hK hDc hNW rfl rfl) rfl rfl hl.1 rfl (lv_room (Nat.le_of_ble_eq_true rfl)) dX5_demand_45 ⟨Nat.zero_le _, Nat.zero_le _⟩) hS (fun q _ h => hFc q h) hFc (fun r_45 u_45 t9 H1 locs ht9 hvm9 hw9 hB9 hz9 hk9 hS => ?_)
  have er_45 : r_45 = fX6_refusal x_8 x2 r_21 v_kF := hw9
  obtain ⟨hP, hD⟩ := back_std (w1 := (wX6_refusal cI cB a_me a_by a_ks v_kF)) (w2 := (wX5_demand cI cB a_mc a_me a_ps a_by a_ks a_rg u_27 v_word v_kF)) (wr := [(a_mc, .inr (5, [.ref a_me, .ref a_ps, .ref a_rg, .int u_27])), (a_ps, .inr (7, [.long v_word]))]) hP hD [1, 3] [0, 2] [0, 2, 1, 3] rfl rfl (by decide) (by decide) hk9 hFc hB9 ht9 (by decide) rfl
  clear hB9 hk9 hz9 hvm9 ht9 hFc hPc hDc
  generalize H1 = H at hP hS ⊢
  have hPc : va_P D vwCl (wX5_fail cI cB a_mc a_me a_ps a_rg u_27) H := hP.sub [0] rfl
  have hDc : va_D A (wX5_fail cI cB a_mc a_me a_ps a_rg u_27) := hD.sub [0] (by decide) rfl
  have hFc := va_free (wc := (wX5_fail cI cB a_mc a_me a_ps a_rg u_27)) hD hS hA [0] rfl
  refine va_callv (va_runV (As := [.int r_45]) (rest := []) ⟨hx, hb, hml, hown, hts⟩ (kX5_fail l D cI cB a_mc a_me a_ps a_rg H.size u_27 r_45) (cwV 1 hts (gd_V wd_53 wd_54 wd_55 wd_24 wd_46) rfl rfl rfl hdX5_fail ⟨Nat.le_of_ble_eq_true rfl, Nat.le_of_ble_eq_true rfl⟩) (preV_std (ci := 5) (q0 := 0) hPc hK hDc hNW rfl rfl) rfl rfl hl.1 rfl (lv_room (Nat.le_of_ble_eq_true rfl)) dX5_demand_48 ⟨Nat.zero_le _, Nat.zero_le _⟩) hS (fun q _ h => hFc q h) hFc (fun u_48 t9 H1 locs ht9 hvm9 hw9 hB9 hz9 hk9 hS => ?_)
  have eu_48 : u_48 = fX5_fail r_45 u_27 := hw9
  obtain ⟨hP, hD⟩ := back_std (w1 := (wX5_fail cI cB a_mc a_me a_ps a_rg u_48)) (w2 := (wX5_demand cI cB a_mc a_me a_ps a_by a_ks a_rg u_48 v_word v_kF)) (wr := [(a_me, .inr (6, [.ref a_by, .ref a_ks])), (a_ps, .inr (7, [.long v_word])), (a_ks, .inl (cI, 4, .inl v_kF))]) hP hD [0] [1, 2, 3] [3, 0, 1, 2] rfl rfl (by decide) (by decide) hk9 hFc hB9 ht9 (by decide) rfl
  clear hB9 hk9 hz9 hvm9 ht9 hFc hPc hDc
  generalize H1 = H at hP hS ⊢
  have hf9 : u_48 = fX5_demand x0 x1 x2 v_fault v_word v_kF := by subst ex_8; simp only [fX5_demand, ← er_21, ← er_24, ← eu_27, ← er_45, ← eu_48]
  exact W.vret hx hb hr (fun t9 ht9 hW9 => ⟨⟨u_48, rfl, hf9, ⟨by rw [ht9]; exact hP, va_K.moved hW9.alike hK, hD⟩⟩, hS.F ht9⟩) hS.2.2 dX5_demand_51
theorem hdX5_demand : yX5_demand.cls = RX5 ∧ yX5_demand.cls ≠ "java/lang/invoke/MethodHandle" ∧ yX5_demand.cls ≠ "java/lang/invoke/VarHandle" ∧ (parseMethodDescriptor yX5_demand.desc).map (fun d => d.parameters.length) = some 3 := by decide +kernel
noncomputable def fX5_demandAligned (x0 : Int32) (x1 : Int32) (v_fault : Int32) : Int32 :=
  if (x0 &&& (x1 - 1)) = 0 then (v_fault) else (let u_11 := fX5_fail 6 v_fault; u_11)
abbrev wX5_demandAligned (cI cB : ClassId) (a_mc a_me a_ps a_rg : Nat) (v_fault : Int32) : va_W := [(a_mc, .inr (5, [.ref a_me, .ref a_ps, .ref a_rg, .int v_fault]))]
abbrev rmX5_demandAligned : Room := { frames := 1, cells := 0, slots := 0, locals := 21 }
abbrev qX5_demandAligned (D : va_G) (cI cB : ClassId) (a_mc a_me a_ps a_rg : Nat) (v_fault : Int32) (x0 : Int32) (x1 : Int32) : (Nat → Prop) → Array Value → State → Outcome → State → Prop := fun A9 => va_Qv (fun (u9 : Int32) => u9 = fX5_demandAligned x0 x1 v_fault) (fun u9 t9 => atW D (TYS cI cB) A9 (wX5_demandAligned cI cB a_mc a_me a_ps a_rg u9) t9) A9
set_option maxHeartbeats 4000000 in
set_option maxRecDepth 100000 in
theorem kX5_demandAligned (l : Launch) (D : va_G) (cI cB : ClassId) (a_mc a_me a_ps a_rg : Nat) (sz : Nat) (v_fault : Int32) (x0 : Int32) (x1 : Int32) : MetW l yX5_demandAligned (WK yX5_demandAligned cX5_demandAligned 3 none) rmX5_demandAligned D (TYS cI cB) (wX5_demandAligned cI cB a_mc a_me a_ps a_rg v_fault) sz [.ref a_mc, .int x0, .int x1] (qX5_demandAligned D cI cB a_mc a_me a_ps a_rg v_fault x0 x1) 0 0 := by
  refine met_std (by decide) rfl (Nat.le_of_ble_eq_true rfl) ?_
  intro p e s m below meth c A ls H hx hb hr hml hown hts hlocks hA hP hK hD hS hNW hl
  have hl : lv_has ls 3 [(0, .ref a_mc), (1, .int x0), (2, .int x1)] := hl
  refine lv_iload_n hx hb dX5_demandAligned_0 rfl (lv_at hl 1 rfl) ?_
  refine lv_iload_n hx hb dX5_demandAligned_1 rfl (lv_at hl 2 rfl) ?_
  refine lv_iconst (v := 1) hx hb dX5_demandAligned_2 (by decide) ?_
  refine lv_isub hx hb dX5_demandAligned_3 ?_
  refine lv_iand hx hb dX5_demandAligned_4 ?_
  refine lv_if_eq (tgt := 14) hx hb dX5_demandAligned_5 (by decide) (fun c_5 => ?_) (fun c_5 => ?_)
  · skip
    have hf9 : v_fault = fX5_demandAligned x0 x1 v_fault := by simp only [fX5_demandAligned, if_pos c_5]
    exact W.vret hx hb hr (fun t9 ht9 hW9 => ⟨⟨v_fault, rfl, hf9, ⟨by rw [ht9]; exact hP, va_K.moved hW9.alike hK, hD⟩⟩, hS.F ht9⟩) hS.2.2 dX5_demandAligned_14
  · skip
    refine lv_aload_n hx hb dX5_demandAligned_8 rfl (lv_at hl 0 rfl) ?_
    refine lv_bipush (v := 6) hx hb dX5_demandAligned_9 (by decide) ?_
    have hPc : va_P D vwCl (wX5_fail cI cB a_mc a_me a_ps a_rg v_fault) H := hP.sub [0] rfl
    have hDc : va_D A (wX5_fail cI cB a_mc a_me a_ps a_rg v_fault) := hD.sub [0] (by decide) rfl
    have hFc := va_free (wc := (wX5_fail cI cB a_mc a_me a_ps a_rg v_fault)) hD hS hA [0] rfl
    refine va_callv (va_runV (As := [.int 6]) (rest := []) ⟨hx, hb, hml, hown, hts⟩ (kX5_fail l D cI cB a_mc a_me a_ps a_rg H.size v_fault 6) (cwV 1 hts (gd_V wd_53 wd_54 wd_55 wd_24 wd_46) rfl rfl rfl hdX5_fail ⟨Nat.le_of_ble_eq_true rfl, Nat.le_of_ble_eq_true rfl⟩) (preV_std (ci := 5) (q0 := 0) hPc hK hDc hNW rfl rfl) rfl rfl hl.1 rfl (lv_room (Nat.le_of_ble_eq_true rfl)) dX5_demandAligned_11 ⟨Nat.zero_le _, Nat.zero_le _⟩) hS (fun q _ h => hFc q h) hFc (fun u_11 t9 H1 locs ht9 hvm9 hw9 hB9 hz9 hk9 hS => ?_)
    have eu_11 : u_11 = fX5_fail 6 v_fault := hw9
    obtain ⟨hP, hD⟩ := back_std (w1 := (wX5_fail cI cB a_mc a_me a_ps a_rg u_11)) (w2 := (wX5_demandAligned cI cB a_mc a_me a_ps a_rg u_11)) (wr := []) hP hD [0] [] [0] rfl rfl (by decide) (by decide) hk9 hFc hB9 ht9 (by decide) rfl
    clear hB9 hk9 hz9 hvm9 ht9 hFc hPc hDc
    generalize H1 = H at hP hS ⊢
    have hf9 : u_11 = fX5_demandAligned x0 x1 v_fault := by simp only [fX5_demandAligned, ← eu_11, if_neg c_5]
    exact W.vret hx hb hr (fun t9 ht9 hW9 => ⟨⟨u_11, rfl, hf9, ⟨by rw [ht9]; exact hP, va_K.moved hW9.alike hK, hD⟩⟩, hS.F ht9⟩) hS.2.2 dX5_demandAligned_14
theorem hdX5_demandAligned : yX5_demandAligned.cls = RX5 ∧ yX5_demandAligned.cls ≠ "java/lang/invoke/MethodHandle" ∧ yX5_demandAligned.cls ≠ "java/lang/invoke/VarHandle" ∧ (parseMethodDescriptor yX5_demandAligned.desc).map (fun d => d.parameters.length) = some 2 := by decide +kernel
noncomputable def fX5_demandEven (x0 : Int32) (v_fault : Int32) : Int32 :=
  if (x0 &&& 1) = 0 then (v_fault) else (let u_9 := fX5_fail 6 v_fault; u_9)
abbrev wX5_demandEven (cI cB : ClassId) (a_mc a_me a_ps a_rg : Nat) (v_fault : Int32) : va_W := [(a_mc, .inr (5, [.ref a_me, .ref a_ps, .ref a_rg, .int v_fault]))]
abbrev rmX5_demandEven : Room := { frames := 1, cells := 0, slots := 0, locals := 21 }
abbrev qX5_demandEven (D : va_G) (cI cB : ClassId) (a_mc a_me a_ps a_rg : Nat) (v_fault : Int32) (x0 : Int32) : (Nat → Prop) → Array Value → State → Outcome → State → Prop := fun A9 => va_Qv (fun (u9 : Int32) => u9 = fX5_demandEven x0 v_fault) (fun u9 t9 => atW D (TYS cI cB) A9 (wX5_demandEven cI cB a_mc a_me a_ps a_rg u9) t9) A9
set_option maxHeartbeats 4000000 in
set_option maxRecDepth 100000 in
theorem kX5_demandEven (l : Launch) (D : va_G) (cI cB : ClassId) (a_mc a_me a_ps a_rg : Nat) (sz : Nat) (v_fault : Int32) (x0 : Int32) : MetW l yX5_demandEven (WK yX5_demandEven cX5_demandEven 2 none) rmX5_demandEven D (TYS cI cB) (wX5_demandEven cI cB a_mc a_me a_ps a_rg v_fault) sz [.ref a_mc, .int x0] (qX5_demandEven D cI cB a_mc a_me a_ps a_rg v_fault x0) 0 0 := by
  refine met_std (by decide) rfl (Nat.le_of_ble_eq_true rfl) ?_
  intro p e s m below meth c A ls H hx hb hr hml hown hts hlocks hA hP hK hD hS hNW hl
  have hl : lv_has ls 2 [(0, .ref a_mc), (1, .int x0)] := hl
  refine lv_iload_n hx hb dX5_demandEven_0 rfl (lv_at hl 1 rfl) ?_
  refine lv_iconst (v := 1) hx hb dX5_demandEven_1 (by decide) ?_
  refine lv_iand hx hb dX5_demandEven_2 ?_
  refine lv_if_eq (tgt := 12) hx hb dX5_demandEven_3 (by decide) (fun c_3 => ?_) (fun c_3 => ?_)
  · skip
    have hf9 : v_fault = fX5_demandEven x0 v_fault := by simp only [fX5_demandEven, if_pos c_3]
    exact W.vret hx hb hr (fun t9 ht9 hW9 => ⟨⟨v_fault, rfl, hf9, ⟨by rw [ht9]; exact hP, va_K.moved hW9.alike hK, hD⟩⟩, hS.F ht9⟩) hS.2.2 dX5_demandEven_12
  · skip
    refine lv_aload_n hx hb dX5_demandEven_6 rfl (lv_at hl 0 rfl) ?_
    refine lv_bipush (v := 6) hx hb dX5_demandEven_7 (by decide) ?_
    have hPc : va_P D vwCl (wX5_fail cI cB a_mc a_me a_ps a_rg v_fault) H := hP.sub [0] rfl
    have hDc : va_D A (wX5_fail cI cB a_mc a_me a_ps a_rg v_fault) := hD.sub [0] (by decide) rfl
    have hFc := va_free (wc := (wX5_fail cI cB a_mc a_me a_ps a_rg v_fault)) hD hS hA [0] rfl
    refine va_callv (va_runV (As := [.int 6]) (rest := []) ⟨hx, hb, hml, hown, hts⟩ (kX5_fail l D cI cB a_mc a_me a_ps a_rg H.size v_fault 6) (cwV 1 hts (gd_V wd_53 wd_54 wd_55 wd_24 wd_46) rfl rfl rfl hdX5_fail ⟨Nat.le_of_ble_eq_true rfl, Nat.le_of_ble_eq_true rfl⟩) (preV_std (ci := 5) (q0 := 0) hPc hK hDc hNW rfl rfl) rfl rfl hl.1 rfl (lv_room (Nat.le_of_ble_eq_true rfl)) dX5_demandEven_9 ⟨Nat.zero_le _, Nat.zero_le _⟩) hS (fun q _ h => hFc q h) hFc (fun u_9 t9 H1 locs ht9 hvm9 hw9 hB9 hz9 hk9 hS => ?_)
    have eu_9 : u_9 = fX5_fail 6 v_fault := hw9
    obtain ⟨hP, hD⟩ := back_std (w1 := (wX5_fail cI cB a_mc a_me a_ps a_rg u_9)) (w2 := (wX5_demandEven cI cB a_mc a_me a_ps a_rg u_9)) (wr := []) hP hD [0] [] [0] rfl rfl (by decide) (by decide) hk9 hFc hB9 ht9 (by decide) rfl
    clear hB9 hk9 hz9 hvm9 ht9 hFc hPc hDc
    generalize H1 = H at hP hS ⊢
    have hf9 : u_9 = fX5_demandEven x0 v_fault := by simp only [fX5_demandEven, ← eu_9, if_neg c_3]
    exact W.vret hx hb hr (fun t9 ht9 hW9 => ⟨⟨u_9, rfl, hf9, ⟨by rw [ht9]; exact hP, va_K.moved hW9.alike hK, hD⟩⟩, hS.F ht9⟩) hS.2.2 dX5_demandEven_12
theorem hdX5_demandEven : yX5_demandEven.cls = RX5 ∧ yX5_demandEven.cls ≠ "java/lang/invoke/MethodHandle" ∧ yX5_demandEven.cls ≠ "java/lang/invoke/VarHandle" ∧ (parseMethodDescriptor yX5_demandEven.desc).map (fun d => d.parameters.length) = some 1 := by decide +kernel
noncomputable def fX5_demandSupervisor (v_fault : Int32) (v_word : Int64) : Int32 :=
  let r_6 := fX7_has 15 v_word
  if r_6 = 0 then (v_fault) else (let u_14 := fX5_fail 2 v_fault; u_14)
abbrev wX5_demandSupervisor (cI cB : ClassId) (a_mc a_me a_ps a_rg : Nat) (v_fault : Int32) (v_word : Int64) : va_W := [(a_mc, .inr (5, [.ref a_me, .ref a_ps, .ref a_rg, .int v_fault])), (a_ps, .inr (7, [.long v_word]))]
abbrev rmX5_demandSupervisor : Room := { frames := 1, cells := 0, slots := 0, locals := 21 }
abbrev qX5_demandSupervisor (D : va_G) (cI cB : ClassId) (a_mc a_me a_ps a_rg : Nat) (v_fault : Int32) (v_word : Int64) : (Nat → Prop) → Array Value → State → Outcome → State → Prop := fun A9 => va_Qv (fun (u9 : Int32) => u9 = fX5_demandSupervisor v_fault v_word) (fun u9 t9 => atW D (TYS cI cB) A9 (wX5_demandSupervisor cI cB a_mc a_me a_ps a_rg u9 v_word) t9) A9
set_option maxHeartbeats 4000000 in
set_option maxRecDepth 100000 in
theorem kX5_demandSupervisor (l : Launch) (D : va_G) (cI cB : ClassId) (a_mc a_me a_ps a_rg : Nat) (sz : Nat) (v_fault : Int32) (v_word : Int64) : MetW l yX5_demandSupervisor (WK yX5_demandSupervisor cX5_demandSupervisor 1 none) rmX5_demandSupervisor D (TYS cI cB) (wX5_demandSupervisor cI cB a_mc a_me a_ps a_rg v_fault v_word) sz [.ref a_mc] (qX5_demandSupervisor D cI cB a_mc a_me a_ps a_rg v_fault v_word) 0 0 := by
  refine met_std (by decide) rfl (Nat.le_of_ble_eq_true rfl) ?_
  intro p e s m below meth c A ls H hx hb hr hml hown hts hlocks hA hP hK hD hS hNW hl
  have hl : lv_has ls 1 [(0, .ref a_mc)] := hl
  have q_0 := hts _ (List.mem_cons_of_mem _ wd_49)
  refine lv_aload_n hx hb dX5_demandSupervisor_0 rfl (lv_at hl 0 rfl) ?_
  refine va_get (D := D) (ci := 5) (v := .ref a_ps) (C := RX5) (T := TX5) (N := 4) hx hb hts in_X5 hown hK hP 0 rfl rfl 1 (by decide) q_0 (fun _ h9 => h9) rfl dX5_demandSupervisor_1 ?_
  refine lv_bipush (v := 15) hx hb dX5_demandSupervisor_4 (by decide) ?_
  have hPc : va_P D vwCl (wX7_has cI cB a_ps v_word) H := hP.sub [1] rfl
  have hDc : va_D A (wX7_has cI cB a_ps v_word) := hD.sub [1] (by decide) rfl
  have hFc := va_free (wc := (wX7_has cI cB a_ps v_word)) hD hS hA [1] rfl
  refine va_calli (va_runV (As := [.int 15]) (rest := []) ⟨hx, hb, hml, hown, hts⟩ (kX7_has l D cI cB a_ps H.size v_word 15) (cwV 1 hts (gd_V wd_50 wd_51 wd_52 wd_15 wd_45) rfl rfl rfl hdX7_has ⟨Nat.le_of_ble_eq_true rfl, Nat.le_of_ble_eq_true rfl⟩) (preV_std (ci := 7) (q0 := 0) hPc hK hDc hNW rfl rfl) rfl rfl hl.1 rfl (lv_room (Nat.le_of_ble_eq_true rfl)) dX5_demandSupervisor_6 ⟨Nat.zero_le _, Nat.zero_le _⟩) hS (fun q _ h => hFc q h) hFc (fun r_6 u_6 t9 H1 locs ht9 hvm9 hw9 hB9 hz9 hk9 hS => ?_)
  have er_6 : r_6 = fX7_has 15 v_word := hw9
  have zr_6 : r_6 = 0 ∨ r_6 = 1 := by rw [er_6]; exact zX7_has _ _
  obtain ⟨hP, hD⟩ := back_std (w1 := (wX7_has cI cB a_ps v_word)) (w2 := (wX5_demandSupervisor cI cB a_mc a_me a_ps a_rg v_fault v_word)) (wr := [(a_mc, .inr (5, [.ref a_me, .ref a_ps, .ref a_rg, .int v_fault]))]) hP hD [1] [0] [0, 1] rfl rfl (by decide) (by decide) hk9 hFc hB9 ht9 (by decide) rfl
  clear hB9 hk9 hz9 hvm9 ht9 hFc hPc hDc
  generalize H1 = H at hP hS ⊢
  refine lv_if_eq (tgt := 17) hx hb dX5_demandSupervisor_9 (by decide) (fun c_9 => ?_) (fun c_9 => ?_)
  · skip
    have hf9 : v_fault = fX5_demandSupervisor v_fault v_word := by simp only [fX5_demandSupervisor, ← er_6, if_pos c_9]
    exact W.vret hx hb hr (fun t9 ht9 hW9 => ⟨⟨v_fault, rfl, hf9, ⟨by rw [ht9]; exact hP, va_K.moved hW9.alike hK, hD⟩⟩, hS.F ht9⟩) hS.2.2 dX5_demandSupervisor_17
  · skip
    refine lv_aload_n hx hb dX5_demandSupervisor_12 rfl (lv_at hl 0 rfl) ?_
    refine lv_iconst (v := 2) hx hb dX5_demandSupervisor_13 (by decide) ?_
    have hPc : va_P D vwCl (wX5_fail cI cB a_mc a_me a_ps a_rg v_fault) H := hP.sub [0] rfl
    have hDc : va_D A (wX5_fail cI cB a_mc a_me a_ps a_rg v_fault) := hD.sub [0] (by decide) rfl
    have hFc := va_free (wc := (wX5_fail cI cB a_mc a_me a_ps a_rg v_fault)) hD hS hA [0] rfl
    refine va_callv (va_runV (As := [.int 2]) (rest := []) ⟨hx, hb, hml, hown, hts⟩ (kX5_fail l D cI cB a_mc a_me a_ps a_rg H.size v_fault 2) (cwV 1 hts (gd_V wd_53 wd_54 wd_55 wd_24 wd_46) rfl rfl rfl hdX5_fail ⟨Nat.le_of_ble_eq_true rfl, Nat.le_of_ble_eq_true rfl⟩) (preV_std (ci := 5) (q0 := 0) hPc hK hDc hNW rfl rfl) rfl rfl hl.1 rfl (lv_room (Nat.le_of_ble_eq_true rfl)) dX5_demandSupervisor_14 ⟨Nat.zero_le _, Nat.zero_le _⟩) hS (fun q _ h => hFc q h) hFc (fun u_14 t9 H1 locs ht9 hvm9 hw9 hB9 hz9 hk9 hS => ?_)
    have eu_14 : u_14 = fX5_fail 2 v_fault := hw9
    obtain ⟨hP, hD⟩ := back_std (w1 := (wX5_fail cI cB a_mc a_me a_ps a_rg u_14)) (w2 := (wX5_demandSupervisor cI cB a_mc a_me a_ps a_rg u_14 v_word)) (wr := [(a_ps, .inr (7, [.long v_word]))]) hP hD [0] [1] [1, 0] rfl rfl (by decide) (by decide) hk9 hFc hB9 ht9 (by decide) rfl
    clear hB9 hk9 hz9 hvm9 ht9 hFc hPc hDc
    generalize H1 = H at hP hS ⊢
    have hf9 : u_14 = fX5_demandSupervisor v_fault v_word := by simp only [fX5_demandSupervisor, ← er_6, ← eu_14, if_neg c_9]
    exact W.vret hx hb hr (fun t9 ht9 hW9 => ⟨⟨u_14, rfl, hf9, ⟨by rw [ht9]; exact hP, va_K.moved hW9.alike hK, hD⟩⟩, hS.F ht9⟩) hS.2.2 dX5_demandSupervisor_17
theorem hdX5_demandSupervisor : yX5_demandSupervisor.cls = RX5 ∧ yX5_demandSupervisor.cls ≠ "java/lang/invoke/MethodHandle" ∧ yX5_demandSupervisor.cls ≠ "java/lang/invoke/VarHandle" ∧ (parseMethodDescriptor yX5_demandSupervisor.desc).map (fun d => d.parameters.length) = some 0 := by decide +kernel
noncomputable def fX5_conditionByNumber (x0 : Int64) (v_word : Int64) : Int64 :=
  let m_25 : Int32 := (if (lg_cmp (x0) (0)) = 0 then (0) else (if 0 ≤ (lg_cmp (x0) (0)) then (2) else (1)))
  let u_25 := fX7_setCondition m_25 v_word
  u_25
abbrev wX5_conditionByNumber (cI cB : ClassId) (a_mc a_me a_ps a_rg : Nat) (v_fault : Int32) (v_word : Int64) : va_W := [(a_mc, .inr (5, [.ref a_me, .ref a_ps, .ref a_rg, .int v_fault])), (a_ps, .inr (7, [.long v_word]))]
abbrev rmX5_conditionByNumber : Room := { frames := 1, cells := 0, slots := 0, locals := 21 }
abbrev qX5_conditionByNumber (D : va_G) (cI cB : ClassId) (a_mc a_me a_ps a_rg : Nat) (v_fault : Int32) (v_word : Int64) (x0 : Int64) : (Nat → Prop) → Array Value → State → Outcome → State → Prop := fun A9 => va_Qv (fun (u9 : Int64) => u9 = fX5_conditionByNumber x0 v_word) (fun u9 t9 => atW D (TYS cI cB) A9 (wX5_conditionByNumber cI cB a_mc a_me a_ps a_rg v_fault u9) t9) A9
set_option maxHeartbeats 4000000 in
set_option maxRecDepth 100000 in
theorem kX5_conditionByNumber (l : Launch) (D : va_G) (cI cB : ClassId) (a_mc a_me a_ps a_rg : Nat) (sz : Nat) (v_fault : Int32) (v_word : Int64) (x0 : Int64) : MetW l yX5_conditionByNumber (WK yX5_conditionByNumber cX5_conditionByNumber 3 none) rmX5_conditionByNumber D (TYS cI cB) (wX5_conditionByNumber cI cB a_mc a_me a_ps a_rg v_fault v_word) sz [.ref a_mc, .long x0] (qX5_conditionByNumber D cI cB a_mc a_me a_ps a_rg v_fault v_word x0) 0 0 := by
  refine met_std (by decide) rfl (Nat.le_of_ble_eq_true rfl) ?_
  intro p e s m below meth c A ls H hx hb hr hml hown hts hlocks hA hP hK hD hS hNW hl
  have hl : lv_has ls 3 [(0, .ref a_mc), (1, .long x0)] := hl
  have q_0 := hts _ (List.mem_cons_of_mem _ wd_49)
  refine lv_aload_n hx hb dX5_conditionByNumber_0 rfl (lv_at hl 0 rfl) ?_
  refine va_get (D := D) (ci := 5) (v := .ref a_ps) (C := RX5) (T := TX5) (N := 4) hx hb hts in_X5 hown hK hP 0 rfl rfl 1 (by decide) q_0 (fun _ h9 => h9) rfl dX5_conditionByNumber_1 ?_
  refine lv_lload_n hx hb dX5_conditionByNumber_4 rfl (lv_at hl 1 rfl) ?_
  refine lv_lconst (v := 0) hx hb dX5_conditionByNumber_5 (by decide) ?_
  refine W.lcmp hx hb dX5_conditionByNumber_6 ?_
  have J_25 : ∀ (m_25 : Int32), m_25 = (if (lg_cmp (x0) (0)) = 0 then (0) else (if 0 ≤ (lg_cmp (x0) (0)) then (2) else (1))) → ∀ (H : Heap) (locs : List Loc), va_P D vwCl (wX5_conditionByNumber cI cB a_mc a_me a_ps a_rg v_fault v_word) H → va_D A (wX5_conditionByNumber cI cB a_mc a_me a_ps a_rg v_fault v_word) → va_S A s.heap H locs → ∀ (ls : Array Slot), lv_has ls 3 [(0, .ref a_mc), (1, .long x0)] → W p l e rmX5_conditionByNumber s m ([.ref a_mc, .long x0] : List Value).toArray below meth c H locs 0 0 (MQ below (qX5_conditionByNumber D cI cB a_mc a_me a_ps a_rg v_fault v_word x0 A) ([.ref a_mc, .long x0] : List Value).toArray s 0 0 A) (F0 m 25 ls [.int m_25, .ref a_ps]) := by
    intro m_25 em_25 H locs hP hD hS ls hl
    have hPc : va_P D vwCl (wX7_setCondition cI cB a_ps v_word) H := hP.sub [1] rfl
    have hDc : va_D A (wX7_setCondition cI cB a_ps v_word) := hD.sub [1] (by decide) rfl
    have hFc := va_free (wc := (wX7_setCondition cI cB a_ps v_word)) hD hS hA [1] rfl
    refine va_callv (va_runV (As := [.int m_25]) (rest := []) ⟨hx, hb, hml, hown, hts⟩ (kX7_setCondition l D cI cB a_ps H.size v_word m_25) (cwV 1 hts (gd_V wd_240 wd_241 wd_242 wd_15 wd_236) rfl rfl rfl hdX7_setCondition ⟨Nat.le_of_ble_eq_true rfl, Nat.le_of_ble_eq_true rfl⟩) (preV_std (ci := 7) (q0 := 0) hPc hK hDc hNW rfl rfl) rfl rfl hl.1 rfl (lv_room (Nat.le_of_ble_eq_true rfl)) dX5_conditionByNumber_25 ⟨Nat.zero_le _, Nat.zero_le _⟩) hS (fun q _ h => hFc q h) hFc (fun u_25 t9 H1 locs ht9 hvm9 hw9 hB9 hz9 hk9 hS => ?_)
    have eu_25 : u_25 = fX7_setCondition m_25 v_word := hw9
    obtain ⟨hP, hD⟩ := back_std (w1 := (wX7_setCondition cI cB a_ps u_25)) (w2 := (wX5_conditionByNumber cI cB a_mc a_me a_ps a_rg v_fault u_25)) (wr := [(a_mc, .inr (5, [.ref a_me, .ref a_ps, .ref a_rg, .int v_fault]))]) hP hD [1] [0] [0, 1] rfl rfl (by decide) (by decide) hk9 hFc hB9 ht9 (by decide) rfl
    clear hB9 hk9 hz9 hvm9 ht9 hFc hPc hDc
    generalize H1 = H at hP hS ⊢
    have hf9 : u_25 = fX5_conditionByNumber x0 v_word := by subst em_25; simp only [fX5_conditionByNumber, ← eu_25]
    exact W.vret hx hb hr (fun t9 ht9 hW9 => ⟨⟨u_25, rfl, hf9, ⟨by rw [ht9]; exact hP, va_K.moved hW9.alike hK, hD⟩⟩, hS.F ht9⟩) hS.2.2 dX5_conditionByNumber_28
  refine lv_if_ne (tgt := 14) hx hb dX5_conditionByNumber_7 (by decide) (fun c_7 => ?_) (fun c_7 => ?_)
  · skip
    refine lv_lload_n hx hb dX5_conditionByNumber_14 rfl (lv_at hl 1 rfl) ?_
    refine lv_lconst (v := 0) hx hb dX5_conditionByNumber_15 (by decide) ?_
    refine W.lcmp hx hb dX5_conditionByNumber_16 ?_
    refine lv_if_ge (tgt := 24) hx hb dX5_conditionByNumber_17 (by decide) (fun c_17 => ?_) (fun c_17 => ?_)
    · skip
      refine lv_iconst (v := 2) hx hb dX5_conditionByNumber_24 (by decide) ?_
      exact J_25 2 (by simp only [if_neg c_7, if_pos c_17]) _ _ hP hD hS ls (lv_sub hl [0, 1] rfl)
    · skip
      refine lv_iconst (v := 1) hx hb dX5_conditionByNumber_20 (by decide) ?_
      refine lv_goto (tgt := 25) hx hb dX5_conditionByNumber_21 (by decide) ?_
      exact J_25 1 (by simp only [if_neg c_7, if_neg c_17]) _ _ hP hD hS ls (lv_sub hl [0, 1] rfl)
  · skip
    refine lv_iconst (v := 0) hx hb dX5_conditionByNumber_10 (by decide) ?_
    refine lv_goto (tgt := 25) hx hb dX5_conditionByNumber_11 (by decide) ?_
    exact J_25 0 (by simp only [if_pos c_7]) _ _ hP hD hS ls (lv_sub hl [0, 1] rfl)
theorem hdX5_conditionByNumber : yX5_conditionByNumber.cls = RX5 ∧ yX5_conditionByNumber.cls ≠ "java/lang/invoke/MethodHandle" ∧ yX5_conditionByNumber.cls ≠ "java/lang/invoke/VarHandle" ∧ (parseMethodDescriptor yX5_conditionByNumber.desc).map (fun d => d.parameters.length) = some 1 := by decide +kernel
noncomputable def fX5_conditionByComparing (x0 : Int64) (x1 : Int64) (v_word : Int64) : Int64 :=
  let m_25 : Int32 := (if (lg_cmp (x0) (x1)) = 0 then (0) else (if 0 ≤ (lg_cmp (x0) (x1)) then (2) else (1)))
  let u_25 := fX7_setCondition m_25 v_word
  u_25
abbrev wX5_conditionByComparing (cI cB : ClassId) (a_mc a_me a_ps a_rg : Nat) (v_fault : Int32) (v_word : Int64) : va_W := [(a_mc, .inr (5, [.ref a_me, .ref a_ps, .ref a_rg, .int v_fault])), (a_ps, .inr (7, [.long v_word]))]
abbrev rmX5_conditionByComparing : Room := { frames := 1, cells := 0, slots := 0, locals := 21 }
abbrev qX5_conditionByComparing (D : va_G) (cI cB : ClassId) (a_mc a_me a_ps a_rg : Nat) (v_fault : Int32) (v_word : Int64) (x0 : Int64) (x1 : Int64) : (Nat → Prop) → Array Value → State → Outcome → State → Prop := fun A9 => va_Qv (fun (u9 : Int64) => u9 = fX5_conditionByComparing x0 x1 v_word) (fun u9 t9 => atW D (TYS cI cB) A9 (wX5_conditionByComparing cI cB a_mc a_me a_ps a_rg v_fault u9) t9) A9
set_option maxHeartbeats 4000000 in
set_option maxRecDepth 100000 in
theorem kX5_conditionByComparing (l : Launch) (D : va_G) (cI cB : ClassId) (a_mc a_me a_ps a_rg : Nat) (sz : Nat) (v_fault : Int32) (v_word : Int64) (x0 : Int64) (x1 : Int64) : MetW l yX5_conditionByComparing (WK yX5_conditionByComparing cX5_conditionByComparing 5 none) rmX5_conditionByComparing D (TYS cI cB) (wX5_conditionByComparing cI cB a_mc a_me a_ps a_rg v_fault v_word) sz [.ref a_mc, .long x0, .long x1] (qX5_conditionByComparing D cI cB a_mc a_me a_ps a_rg v_fault v_word x0 x1) 0 0 := by
  refine met_std (by decide) rfl (Nat.le_of_ble_eq_true rfl) ?_
  intro p e s m below meth c A ls H hx hb hr hml hown hts hlocks hA hP hK hD hS hNW hl
  have hl : lv_has ls 5 [(0, .ref a_mc), (1, .long x0), (3, .long x1)] := hl
  have q_0 := hts _ (List.mem_cons_of_mem _ wd_49)
  refine lv_aload_n hx hb dX5_conditionByComparing_0 rfl (lv_at hl 0 rfl) ?_
  refine va_get (D := D) (ci := 5) (v := .ref a_ps) (C := RX5) (T := TX5) (N := 4) hx hb hts in_X5 hown hK hP 0 rfl rfl 1 (by decide) q_0 (fun _ h9 => h9) rfl dX5_conditionByComparing_1 ?_
  refine lv_lload_n hx hb dX5_conditionByComparing_4 rfl (lv_at hl 1 rfl) ?_
  refine lv_lload_n hx hb dX5_conditionByComparing_5 rfl (lv_at hl 2 rfl) ?_
  refine W.lcmp hx hb dX5_conditionByComparing_6 ?_
  have J_25 : ∀ (m_25 : Int32), m_25 = (if (lg_cmp (x0) (x1)) = 0 then (0) else (if 0 ≤ (lg_cmp (x0) (x1)) then (2) else (1))) → ∀ (H : Heap) (locs : List Loc), va_P D vwCl (wX5_conditionByComparing cI cB a_mc a_me a_ps a_rg v_fault v_word) H → va_D A (wX5_conditionByComparing cI cB a_mc a_me a_ps a_rg v_fault v_word) → va_S A s.heap H locs → ∀ (ls : Array Slot), lv_has ls 5 [(0, .ref a_mc), (1, .long x0), (3, .long x1)] → W p l e rmX5_conditionByComparing s m ([.ref a_mc, .long x0, .long x1] : List Value).toArray below meth c H locs 0 0 (MQ below (qX5_conditionByComparing D cI cB a_mc a_me a_ps a_rg v_fault v_word x0 x1 A) ([.ref a_mc, .long x0, .long x1] : List Value).toArray s 0 0 A) (F0 m 25 ls [.int m_25, .ref a_ps]) := by
    intro m_25 em_25 H locs hP hD hS ls hl
    have hPc : va_P D vwCl (wX7_setCondition cI cB a_ps v_word) H := hP.sub [1] rfl
    have hDc : va_D A (wX7_setCondition cI cB a_ps v_word) := hD.sub [1] (by decide) rfl
    have hFc := va_free (wc := (wX7_setCondition cI cB a_ps v_word)) hD hS hA [1] rfl
    refine va_callv (va_runV (As := [.int m_25]) (rest := []) ⟨hx, hb, hml, hown, hts⟩ (kX7_setCondition l D cI cB a_ps H.size v_word m_25) (cwV 1 hts (gd_V wd_240 wd_241 wd_242 wd_15 wd_236) rfl rfl rfl hdX7_setCondition ⟨Nat.le_of_ble_eq_true rfl, Nat.le_of_ble_eq_true rfl⟩) (preV_std (ci := 7) (q0 := 0) hPc hK hDc hNW rfl rfl) rfl rfl hl.1 rfl (lv_room (Nat.le_of_ble_eq_true rfl)) dX5_conditionByComparing_25 ⟨Nat.zero_le _, Nat.zero_le _⟩) hS (fun q _ h => hFc q h) hFc (fun u_25 t9 H1 locs ht9 hvm9 hw9 hB9 hz9 hk9 hS => ?_)
    have eu_25 : u_25 = fX7_setCondition m_25 v_word := hw9
    obtain ⟨hP, hD⟩ := back_std (w1 := (wX7_setCondition cI cB a_ps u_25)) (w2 := (wX5_conditionByComparing cI cB a_mc a_me a_ps a_rg v_fault u_25)) (wr := [(a_mc, .inr (5, [.ref a_me, .ref a_ps, .ref a_rg, .int v_fault]))]) hP hD [1] [0] [0, 1] rfl rfl (by decide) (by decide) hk9 hFc hB9 ht9 (by decide) rfl
    clear hB9 hk9 hz9 hvm9 ht9 hFc hPc hDc
    generalize H1 = H at hP hS ⊢
    have hf9 : u_25 = fX5_conditionByComparing x0 x1 v_word := by subst em_25; simp only [fX5_conditionByComparing, ← eu_25]
    exact W.vret hx hb hr (fun t9 ht9 hW9 => ⟨⟨u_25, rfl, hf9, ⟨by rw [ht9]; exact hP, va_K.moved hW9.alike hK, hD⟩⟩, hS.F ht9⟩) hS.2.2 dX5_conditionByComparing_28
  refine lv_if_ne (tgt := 14) hx hb dX5_conditionByComparing_7 (by decide) (fun c_7 => ?_) (fun c_7 => ?_)
  · skip
    refine lv_lload_n hx hb dX5_conditionByComparing_14 rfl (lv_at hl 1 rfl) ?_
    refine lv_lload_n hx hb dX5_conditionByComparing_15 rfl (lv_at hl 2 rfl) ?_
    refine W.lcmp hx hb dX5_conditionByComparing_16 ?_
    refine lv_if_ge (tgt := 24) hx hb dX5_conditionByComparing_17 (by decide) (fun c_17 => ?_) (fun c_17 => ?_)
    · skip
      refine lv_iconst (v := 2) hx hb dX5_conditionByComparing_24 (by decide) ?_
      exact J_25 2 (by simp only [if_neg c_7, if_pos c_17]) _ _ hP hD hS ls (lv_sub hl [0, 1, 2] rfl)
    · skip
      refine lv_iconst (v := 1) hx hb dX5_conditionByComparing_20 (by decide) ?_
      refine lv_goto (tgt := 25) hx hb dX5_conditionByComparing_21 (by decide) ?_
      exact J_25 1 (by simp only [if_neg c_7, if_neg c_17]) _ _ hP hD hS ls (lv_sub hl [0, 1, 2] rfl)
  · skip
    refine lv_iconst (v := 0) hx hb dX5_conditionByComparing_10 (by decide) ?_
    refine lv_goto (tgt := 25) hx hb dX5_conditionByComparing_11 (by decide) ?_
    exact J_25 0 (by simp only [if_pos c_7]) _ _ hP hD hS ls (lv_sub hl [0, 1, 2] rfl)
theorem hdX5_conditionByComparing : yX5_conditionByComparing.cls = RX5 ∧ yX5_conditionByComparing.cls ≠ "java/lang/invoke/MethodHandle" ∧ yX5_conditionByComparing.cls ≠ "java/lang/invoke/VarHandle" ∧ (parseMethodDescriptor yX5_conditionByComparing.desc).map (fun d => d.parameters.length) = some 2 := by decide +kernel
noncomputable def fX5_conditionByBits (x0 : Int32) (v_word : Int64) : Int64 :=
  let m_13 : Int32 := (if x0 = 0 then (0) else (1))
  let u_13 := fX7_setCondition m_13 v_word
  u_13
abbrev wX5_conditionByBits (cI cB : ClassId) (a_mc a_me a_ps a_rg : Nat) (v_fault : Int32) (v_word : Int64) : va_W := [(a_mc, .inr (5, [.ref a_me, .ref a_ps, .ref a_rg, .int v_fault])), (a_ps, .inr (7, [.long v_word]))]
abbrev rmX5_conditionByBits : Room := { frames := 1, cells := 0, slots := 0, locals := 21 }
abbrev qX5_conditionByBits (D : va_G) (cI cB : ClassId) (a_mc a_me a_ps a_rg : Nat) (v_fault : Int32) (v_word : Int64) (x0 : Int32) : (Nat → Prop) → Array Value → State → Outcome → State → Prop := fun A9 => va_Qv (fun (u9 : Int64) => u9 = fX5_conditionByBits x0 v_word) (fun u9 t9 => atW D (TYS cI cB) A9 (wX5_conditionByBits cI cB a_mc a_me a_ps a_rg v_fault u9) t9) A9
set_option maxHeartbeats 4000000 in
set_option maxRecDepth 100000 in
theorem kX5_conditionByBits (l : Launch) (D : va_G) (cI cB : ClassId) (a_mc a_me a_ps a_rg : Nat) (sz : Nat) (v_fault : Int32) (v_word : Int64) (x0 : Int32) : MetW l yX5_conditionByBits (WK yX5_conditionByBits cX5_conditionByBits 2 none) rmX5_conditionByBits D (TYS cI cB) (wX5_conditionByBits cI cB a_mc a_me a_ps a_rg v_fault v_word) sz [.ref a_mc, .int x0] (qX5_conditionByBits D cI cB a_mc a_me a_ps a_rg v_fault v_word x0) 0 0 := by
  refine met_std (by decide) rfl (Nat.le_of_ble_eq_true rfl) ?_
  intro p e s m below meth c A ls H hx hb hr hml hown hts hlocks hA hP hK hD hS hNW hl
  have hl : lv_has ls 2 [(0, .ref a_mc), (1, .int x0)] := hl
  have q_0 := hts _ (List.mem_cons_of_mem _ wd_49)
  refine lv_aload_n hx hb dX5_conditionByBits_0 rfl (lv_at hl 0 rfl) ?_
  refine va_get (D := D) (ci := 5) (v := .ref a_ps) (C := RX5) (T := TX5) (N := 4) hx hb hts in_X5 hown hK hP 0 rfl rfl 1 (by decide) q_0 (fun _ h9 => h9) rfl dX5_conditionByBits_1 ?_
  refine lv_iload_n hx hb dX5_conditionByBits_4 rfl (lv_at hl 1 rfl) ?_
  have J_13 : ∀ (m_13 : Int32), m_13 = (if x0 = 0 then (0) else (1)) → ∀ (H : Heap) (locs : List Loc), va_P D vwCl (wX5_conditionByBits cI cB a_mc a_me a_ps a_rg v_fault v_word) H → va_D A (wX5_conditionByBits cI cB a_mc a_me a_ps a_rg v_fault v_word) → va_S A s.heap H locs → ∀ (ls : Array Slot), lv_has ls 2 [(0, .ref a_mc), (1, .int x0)] → W p l e rmX5_conditionByBits s m ([.ref a_mc, .int x0] : List Value).toArray below meth c H locs 0 0 (MQ below (qX5_conditionByBits D cI cB a_mc a_me a_ps a_rg v_fault v_word x0 A) ([.ref a_mc, .int x0] : List Value).toArray s 0 0 A) (F0 m 13 ls [.int m_13, .ref a_ps]) := by
    intro m_13 em_13 H locs hP hD hS ls hl
    have zm_13_0 : m_13 = 0 ∨ m_13 = 1 := by rw [em_13]; (try dsimp only); (repeat' split) <;> first | exact Or.inl rfl | exact Or.inr rfl
    have hPc : va_P D vwCl (wX7_setCondition cI cB a_ps v_word) H := hP.sub [1] rfl
    have hDc : va_D A (wX7_setCondition cI cB a_ps v_word) := hD.sub [1] (by decide) rfl
    have hFc := va_free (wc := (wX7_setCondition cI cB a_ps v_word)) hD hS hA [1] rfl
    refine va_callv (va_runV (As := [.int m_13]) (rest := []) ⟨hx, hb, hml, hown, hts⟩ (kX7_setCondition l D cI cB a_ps H.size v_word m_13) (cwV 1 hts (gd_V wd_240 wd_241 wd_242 wd_15 wd_236) rfl rfl rfl hdX7_setCondition ⟨Nat.le_of_ble_eq_true rfl, Nat.le_of_ble_eq_true rfl⟩) (preV_std (ci := 7) (q0 := 0) hPc hK hDc hNW rfl rfl) rfl rfl hl.1 rfl (lv_room (Nat.le_of_ble_eq_true rfl)) dX5_conditionByBits_13 ⟨Nat.zero_le _, Nat.zero_le _⟩) hS (fun q _ h => hFc q h) hFc (fun u_13 t9 H1 locs ht9 hvm9 hw9 hB9 hz9 hk9 hS => ?_)
    have eu_13 : u_13 = fX7_setCondition m_13 v_word := hw9
    obtain ⟨hP, hD⟩ := back_std (w1 := (wX7_setCondition cI cB a_ps u_13)) (w2 := (wX5_conditionByBits cI cB a_mc a_me a_ps a_rg v_fault u_13)) (wr := [(a_mc, .inr (5, [.ref a_me, .ref a_ps, .ref a_rg, .int v_fault]))]) hP hD [1] [0] [0, 1] rfl rfl (by decide) (by decide) hk9 hFc hB9 ht9 (by decide) rfl
    clear hB9 hk9 hz9 hvm9 ht9 hFc hPc hDc
    generalize H1 = H at hP hS ⊢
    have hf9 : u_13 = fX5_conditionByBits x0 v_word := by subst em_13; simp only [fX5_conditionByBits, ← eu_13]
    exact W.vret hx hb hr (fun t9 ht9 hW9 => ⟨⟨u_13, rfl, hf9, ⟨by rw [ht9]; exact hP, va_K.moved hW9.alike hK, hD⟩⟩, hS.F ht9⟩) hS.2.2 dX5_conditionByBits_16
  refine lv_if_ne (tgt := 12) hx hb dX5_conditionByBits_5 (by decide) (fun c_5 => ?_) (fun c_5 => ?_)
  · skip
    refine lv_iconst (v := 1) hx hb dX5_conditionByBits_12 (by decide) ?_
    exact J_13 1 (by simp only [if_neg c_5]) _ _ hP hD hS ls (lv_sub hl [0, 1] rfl)
  · skip
    refine lv_iconst (v := 0) hx hb dX5_conditionByBits_8 (by decide) ?_
    refine lv_goto (tgt := 13) hx hb dX5_conditionByBits_9 (by decide) ?_
    exact J_13 0 (by simp only [if_pos c_5]) _ _ hP hD hS ls (lv_sub hl [0, 1] rfl)
theorem hdX5_conditionByBits : yX5_conditionByBits.cls = RX5 ∧ yX5_conditionByBits.cls ≠ "java/lang/invoke/MethodHandle" ∧ yX5_conditionByBits.cls ≠ "java/lang/invoke/VarHandle" ∧ (parseMethodDescriptor yX5_conditionByBits.desc).map (fun d => d.parameters.length) = some 1 := by decide +kernel
noncomputable def fX5_overflow (x0 : Int32) (x1 : Int32) (v_fault : Int32) (v_word : Int64) : (Int32 × Int64) :=
  let u_5 := fX7_setCondition 3 v_word
  let r_13 := fX7_has x0 u_5
  if r_13 = 0 then ((v_fault, u_5)) else (let u_21 := fX5_fail x1 v_fault; (u_21, u_5))
abbrev wX5_overflow (cI cB : ClassId) (a_mc a_me a_ps a_rg : Nat) (v_fault : Int32) (v_word : Int64) : va_W := [(a_mc, .inr (5, [.ref a_me, .ref a_ps, .ref a_rg, .int v_fault])), (a_ps, .inr (7, [.long v_word]))]
abbrev rmX5_overflow : Room := { frames := 1, cells := 0, slots := 0, locals := 21 }
abbrev qX5_overflow (D : va_G) (cI cB : ClassId) (a_mc a_me a_ps a_rg : Nat) (v_fault : Int32) (v_word : Int64) (x0 : Int32) (x1 : Int32) : (Nat → Prop) → Array Value → State → Outcome → State → Prop := fun A9 => va_Qv (fun (u9 : (Int32 × Int64)) => u9 = fX5_overflow x0 x1 v_fault v_word) (fun u9 t9 => atW D (TYS cI cB) A9 (wX5_overflow cI cB a_mc a_me a_ps a_rg u9.1 u9.2) t9) A9
set_option maxHeartbeats 4000000 in
set_option maxRecDepth 100000 in
theorem kX5_overflow (l : Launch) (D : va_G) (cI cB : ClassId) (a_mc a_me a_ps a_rg : Nat) (sz : Nat) (v_fault : Int32) (v_word : Int64) (x0 : Int32) (x1 : Int32) : MetW l yX5_overflow (WK yX5_overflow cX5_overflow 3 none) rmX5_overflow D (TYS cI cB) (wX5_overflow cI cB a_mc a_me a_ps a_rg v_fault v_word) sz [.ref a_mc, .int x0, .int x1] (qX5_overflow D cI cB a_mc a_me a_ps a_rg v_fault v_word x0 x1) 0 0 := by
  refine met_std (by decide) rfl (Nat.le_of_ble_eq_true rfl) ?_
  intro p e s m below meth c A ls H hx hb hr hml hown hts hlocks hA hP hK hD hS hNW hl
  have hl : lv_has ls 3 [(0, .ref a_mc), (1, .int x0), (2, .int x1)] := hl
  have q_0 := hts _ (List.mem_cons_of_mem _ wd_49)
  refine lv_aload_n hx hb dX5_overflow_0 rfl (lv_at hl 0 rfl) ?_
  refine va_get (D := D) (ci := 5) (v := .ref a_ps) (C := RX5) (T := TX5) (N := 4) hx hb hts in_X5 hown hK hP 0 rfl rfl 1 (by decide) q_0 (fun _ h9 => h9) rfl dX5_overflow_1 ?_
  refine lv_iconst (v := 3) hx hb dX5_overflow_4 (by decide) ?_
  have hPc : va_P D vwCl (wX7_setCondition cI cB a_ps v_word) H := hP.sub [1] rfl
  have hDc : va_D A (wX7_setCondition cI cB a_ps v_word) := hD.sub [1] (by decide) rfl
  have hFc := va_free (wc := (wX7_setCondition cI cB a_ps v_word)) hD hS hA [1] rfl
  refine va_callv (va_runV (As := [.int 3]) (rest := []) ⟨hx, hb, hml, hown, hts⟩ (kX7_setCondition l D cI cB a_ps H.size v_word 3) (cwV 1 hts (gd_V wd_240 wd_241 wd_242 wd_15 wd_236) rfl rfl rfl hdX7_setCondition ⟨Nat.le_of_ble_eq_true rfl, Nat.le_of_ble_eq_true rfl⟩) (preV_std (ci := 7) (q0 := 0) hPc hK hDc hNW rfl rfl) rfl rfl hl.1 rfl (lv_room (Nat.le_of_ble_eq_true rfl)) dX5_overflow_5 ⟨Nat.zero_le _, Nat.zero_le _⟩) hS (fun q _ h => hFc q h) hFc (fun u_5 t9 H1 locs ht9 hvm9 hw9 hB9 hz9 hk9 hS => ?_)
  have eu_5 : u_5 = fX7_setCondition 3 v_word := hw9
  obtain ⟨hP, hD⟩ := back_std (w1 := (wX7_setCondition cI cB a_ps u_5)) (w2 := (wX5_overflow cI cB a_mc a_me a_ps a_rg v_fault u_5)) (wr := [(a_mc, .inr (5, [.ref a_me, .ref a_ps, .ref a_rg, .int v_fault]))]) hP hD [1] [0] [0, 1] rfl rfl (by decide) (by decide) hk9 hFc hB9 ht9 (by decide) rfl
  clear hB9 hk9 hz9 hvm9 ht9 hFc hPc hDc
  generalize H1 = H at hP hS ⊢
  refine lv_aload_n hx hb dX5_overflow_8 rfl (lv_at hl 0 rfl) ?_
  refine va_get (D := D) (ci := 5) (v := .ref a_ps) (C := RX5) (T := TX5) (N := 4) hx hb hts in_X5 hown hK hP 0 rfl rfl 1 (by decide) q_0 (fun _ h9 => h9) rfl dX5_overflow_9 ?_
  refine lv_iload_n hx hb dX5_overflow_12 rfl (lv_at hl 1 rfl) ?_
  have hPc : va_P D vwCl (wX7_has cI cB a_ps u_5) H := hP.sub [1] rfl
  have hDc : va_D A (wX7_has cI cB a_ps u_5) := hD.sub [1] (by decide) rfl
  have hFc := va_free (wc := (wX7_has cI cB a_ps u_5)) hD hS hA [1] rfl
  refine va_calli (va_runV (As := [.int x0]) (rest := []) ⟨hx, hb, hml, hown, hts⟩ (kX7_has l D cI cB a_ps H.size u_5 x0) (cwV 1 hts (gd_V wd_50 wd_51 wd_52 wd_15 wd_45) rfl rfl rfl hdX7_has ⟨Nat.le_of_ble_eq_true rfl, Nat.le_of_ble_eq_true rfl⟩) (preV_std (ci := 7) (q0 := 0) hPc hK hDc hNW rfl rfl) rfl rfl hl.1 rfl (lv_room (Nat.le_of_ble_eq_true rfl)) dX5_overflow_13 ⟨Nat.zero_le _, Nat.zero_le _⟩) hS (fun q _ h => hFc q h) hFc (fun r_13 u_13 t9 H1 locs ht9 hvm9 hw9 hB9 hz9 hk9 hS => ?_)
  have er_13 : r_13 = fX7_has x0 u_5 := hw9
  have zr_13 : r_13 = 0 ∨ r_13 = 1 := by rw [er_13]; exact zX7_has _ _
  obtain ⟨hP, hD⟩ := back_std (w1 := (wX7_has cI cB a_ps u_5)) (w2 := (wX5_overflow cI cB a_mc a_me a_ps a_rg v_fault u_5)) (wr := [(a_mc, .inr (5, [.ref a_me, .ref a_ps, .ref a_rg, .int v_fault]))]) hP hD [1] [0] [0, 1] rfl rfl (by decide) (by decide) hk9 hFc hB9 ht9 (by decide) rfl
  clear hB9 hk9 hz9 hvm9 ht9 hFc hPc hDc
  generalize H1 = H at hP hS ⊢
  refine lv_if_eq (tgt := 24) hx hb dX5_overflow_16 (by decide) (fun c_16 => ?_) (fun c_16 => ?_)
  · skip
    have hf9 : (v_fault, u_5) = fX5_overflow x0 x1 v_fault v_word := by simp only [fX5_overflow, ← eu_5, ← er_13, if_pos c_16]
    exact W.vret hx hb hr (fun t9 ht9 hW9 => ⟨⟨(v_fault, u_5), rfl, hf9, ⟨by rw [ht9]; exact hP, va_K.moved hW9.alike hK, hD⟩⟩, hS.F ht9⟩) hS.2.2 dX5_overflow_24
  · skip
    refine lv_aload_n hx hb dX5_overflow_19 rfl (lv_at hl 0 rfl) ?_
    refine lv_iload_n hx hb dX5_overflow_20 rfl (lv_at hl 2 rfl) ?_
    have hPc : va_P D vwCl (wX5_fail cI cB a_mc a_me a_ps a_rg v_fault) H := hP.sub [0] rfl
    have hDc : va_D A (wX5_fail cI cB a_mc a_me a_ps a_rg v_fault) := hD.sub [0] (by decide) rfl
    have hFc := va_free (wc := (wX5_fail cI cB a_mc a_me a_ps a_rg v_fault)) hD hS hA [0] rfl
    refine va_callv (va_runV (As := [.int x1]) (rest := []) ⟨hx, hb, hml, hown, hts⟩ (kX5_fail l D cI cB a_mc a_me a_ps a_rg H.size v_fault x1) (cwV 1 hts (gd_V wd_53 wd_54 wd_55 wd_24 wd_46) rfl rfl rfl hdX5_fail ⟨Nat.le_of_ble_eq_true rfl, Nat.le_of_ble_eq_true rfl⟩) (preV_std (ci := 5) (q0 := 0) hPc hK hDc hNW rfl rfl) rfl rfl hl.1 rfl (lv_room (Nat.le_of_ble_eq_true rfl)) dX5_overflow_21 ⟨Nat.zero_le _, Nat.zero_le _⟩) hS (fun q _ h => hFc q h) hFc (fun u_21 t9 H1 locs ht9 hvm9 hw9 hB9 hz9 hk9 hS => ?_)
    have eu_21 : u_21 = fX5_fail x1 v_fault := hw9
    obtain ⟨hP, hD⟩ := back_std (w1 := (wX5_fail cI cB a_mc a_me a_ps a_rg u_21)) (w2 := (wX5_overflow cI cB a_mc a_me a_ps a_rg u_21 u_5)) (wr := [(a_ps, .inr (7, [.long u_5]))]) hP hD [0] [1] [1, 0] rfl rfl (by decide) (by decide) hk9 hFc hB9 ht9 (by decide) rfl
    clear hB9 hk9 hz9 hvm9 ht9 hFc hPc hDc
    generalize H1 = H at hP hS ⊢
    have hf9 : (u_21, u_5) = fX5_overflow x0 x1 v_fault v_word := by simp only [fX5_overflow, ← eu_5, ← er_13, ← eu_21, if_neg c_16]
    exact W.vret hx hb hr (fun t9 ht9 hW9 => ⟨⟨(u_21, u_5), rfl, hf9, ⟨by rw [ht9]; exact hP, va_K.moved hW9.alike hK, hD⟩⟩, hS.F ht9⟩) hS.2.2 dX5_overflow_24
theorem hdX5_overflow : yX5_overflow.cls = RX5 ∧ yX5_overflow.cls ≠ "java/lang/invoke/MethodHandle" ∧ yX5_overflow.cls ≠ "java/lang/invoke/VarHandle" ∧ (parseMethodDescriptor yX5_overflow.desc).map (fun d => d.parameters.length) = some 2 := by decide +kernel
