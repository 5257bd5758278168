noncomputable def fX12_registers (x0 : Int32) (v_wrong : Int32) (v_mrF : (Nat → Int32)) (v_wdF : (Nat → Int32)) : Int32 :=
  let x_8 := ((v_wdF (1 : Int32).toNatClampNeg) >>> (4 &&& 31))
  let x_18 := ((v_wdF (1 : Int32).toNatClampNeg) &&& 15)
  let x_25 := (v_mrF (x_18 : Int32).toNatClampNeg)
  let u_224 := fX12_meet 1 v_wrong
  u_224
abbrev wX12_registers (cI cB : ClassId) (a_mo a_mem a_mks a_mr a_cnt a_wd a_one a_two a_mmade a_mrest a_old : Nat) (v_thrown : Int32) (v_mask : Int32) (v_key : Int32) (v_wait : Int32) (v_problem : Int32) (v_code : Int32) (v_length : Int32) (v_cond : Int32) (v_masks : Int32) (v_addr : Int32) (v_mwanted : Int32) (v_wrong : Int32) (v_after : Int32) (v_calls : Int32) (v_oneB : Int32) (v_twoB : Int32) (v_mrF : (Nat → Int32)) (v_wdF : (Nat → Int32)) : va_W := [(a_mo, .inr (12, [.int v_thrown, .ref a_mem, .ref a_mks, .ref a_mr, .int v_mask, .int v_key, .int v_wait, .int v_problem, .int v_code, .int v_length, .int v_cond, .int v_masks, .int v_addr, .int v_mwanted, .ref a_cnt, .ref a_wd, .int v_wrong, .int v_after, .int v_calls, .ref a_one, .int v_oneB, .ref a_two, .int v_twoB, .ref a_mmade, .ref a_mrest, .ref a_old])), (a_mr, .inl (cI, 16, .inl v_mrF)), (a_wd, .inl (cI, 6, .inl v_wdF))]
abbrev rmX12_registers : Room := { frames := 1, cells := 0, slots := 0, locals := 21 }
abbrev qX12_registers (D : va_G) (cI cB : ClassId) (a_mo a_mem a_mks a_mr a_cnt a_wd a_one a_two a_mmade a_mrest a_old : Nat) (v_thrown : Int32) (v_mask : Int32) (v_key : Int32) (v_wait : Int32) (v_problem : Int32) (v_code : Int32) (v_length : Int32) (v_cond : Int32) (v_masks : Int32) (v_addr : Int32) (v_mwanted : Int32) (v_wrong : Int32) (v_after : Int32) (v_calls : Int32) (v_oneB : Int32) (v_twoB : Int32) (v_mrF : (Nat → Int32)) (v_wdF : (Nat → Int32)) (x0 : Int32) : (Nat → Prop) → Array Value → State → Outcome → State → Prop := fun A9 => va_Qv (fun (u9 : Int32) => u9 = fX12_registers x0 v_wrong v_mrF v_wdF) (fun u9 t9 => atW D (TYS cI cB) A9 (wX12_registers cI cB a_mo a_mem a_mks a_mr a_cnt a_wd a_one a_two a_mmade a_mrest a_old v_thrown v_mask v_key v_wait v_problem v_code v_length v_cond v_masks v_addr v_mwanted u9 v_after v_calls v_oneB v_twoB v_mrF v_wdF) t9) A9
set_option maxHeartbeats 4000000 in
set_option maxRecDepth 100000 in
theorem kX12_registers (l : Launch) (D : va_G) (cI cB : ClassId) (a_mo a_mem a_mks a_mr a_cnt a_wd a_one a_two a_mmade a_mrest a_old : Nat) (sz : Nat) (v_thrown : Int32) (v_mask : Int32) (v_key : Int32) (v_wait : Int32) (v_problem : Int32) (v_code : Int32) (v_length : Int32) (v_cond : Int32) (v_masks : Int32) (v_addr : Int32) (v_mwanted : Int32) (v_wrong : Int32) (v_after : Int32) (v_calls : Int32) (v_oneB : Int32) (v_twoB : Int32) (v_mrF : (Nat → Int32)) (v_wdF : (Nat → Int32)) (x0 : Int32) (h0 : x0 = 0) : MetW l yX12_registers (WK yX12_registers cX12_registers 5 none) rmX12_registers D (TYS cI cB) (wX12_registers cI cB a_mo a_mem a_mks a_mr a_cnt a_wd a_one a_two a_mmade a_mrest a_old v_thrown v_mask v_key v_wait v_problem v_code v_length v_cond v_masks v_addr v_mwanted v_wrong v_after v_calls v_oneB v_twoB v_mrF v_wdF) sz [.ref a_mo, .int x0] (qX12_registers D cI cB a_mo a_mem a_mks a_mr a_cnt a_wd a_one a_two a_mmade a_mrest a_old v_thrown v_mask v_key v_wait v_problem v_code v_length v_cond v_masks v_addr v_mwanted v_wrong v_after v_calls v_oneB v_twoB v_mrF v_wdF x0) 0 0 := by
  refine met_std (by decide) rfl (Nat.le_of_ble_eq_true rfl) ?_
  intro p e s m below meth c A ls H hx hb hr hml hown hts hlocks hA hP hK hD hS hNW hl
  have hl : lv_has ls 5 [(0, .ref a_mo), (1, .int x0)] := hl
  generalize ([] : List Loc) = locs at hS ⊢
  have q_0 := hts _ (List.mem_cons_of_mem _ wd_781)
  have q_1 := hts _ (List.mem_cons_of_mem _ wd_779)
  refine lv_aload_n hx hb dX12_registers_0 rfl (lv_at hl 0 rfl) ?_
  refine va_get (D := D) (ci := 12) (v := .ref a_wd) (C := RX12) (T := TX12) (N := 26) hx hb hts in_X12 hown hK hP 0 rfl rfl 15 (by decide) q_0 (fun _ h9 => h9) rfl dX12_registers_1 ?_
  refine lv_iconst (v := 1) hx hb dX12_registers_4 (by decide) ?_
  refine va_iald hx hb hK hP 2 0 rfl rfl (by unfold vp_in; decide) dX12_registers_5 ?_
  refine lv_iconst (v := 4) hx hb dX12_registers_6 (by decide) ?_
  refine lv_ishr hx hb dX12_registers_7 ?_
  refine lv_topi (fun x_8 ex_8 => ?_)
  refine lv_istore_n (lv' := [(2, .int x_8), (0, .ref a_mo), (1, .int x0)]) hx hb dX12_registers_8 rfl hl (by decide) rfl (fun ls hl => ?_)
  refine lv_aload_n hx hb dX12_registers_9 rfl (lv_at hl 1 rfl) ?_
  refine va_get (D := D) (ci := 12) (v := .ref a_wd) (C := RX12) (T := TX12) (N := 26) hx hb hts in_X12 hown hK hP 0 rfl rfl 15 (by decide) q_0 (fun _ h9 => h9) rfl dX12_registers_10 ?_
  refine lv_iconst (v := 1) hx hb dX12_registers_13 (by decide) ?_
  refine va_iald hx hb hK hP 2 0 rfl rfl (by unfold vp_in; decide) dX12_registers_14 ?_
  refine lv_bipush (v := 15) hx hb dX12_registers_15 (by decide) ?_
  refine lv_iand hx hb dX12_registers_17 ?_
  refine lv_topi (fun x_18 ex_18 => ?_)
  refine lv_istore_n (lv' := [(3, .int x_18), (2, .int x_8), (0, .ref a_mo), (1, .int x0)]) hx hb dX12_registers_18 rfl hl (by decide) rfl (fun ls hl => ?_)
  refine lv_aload_n hx hb dX12_registers_19 rfl (lv_at hl 2 rfl) ?_
  refine va_get (D := D) (ci := 12) (v := .ref a_mr) (C := RX12) (T := TX12) (N := 26) hx hb hts in_X12 hown hK hP 0 rfl rfl 3 (by decide) q_1 (fun _ h9 => h9) rfl dX12_registers_20 ?_
  refine lv_iload_n hx hb dX12_registers_23 rfl (lv_at hl 0 rfl) ?_
  refine va_iald hx hb hK hP 1 0 rfl rfl (by rw [ex_18]; exact pk_andIn _ 4 (by decide) (by decide)) dX12_registers_24 ?_
  refine lv_topi (fun x_25 ex_25 => ?_)
  refine lv_istore (lv' := [(4, .int x_25), (3, .int x_18), (2, .int x_8), (0, .ref a_mo), (1, .int x0)]) hx hb dX12_registers_25 hl (by decide) rfl (fun ls hl => ?_)
  refine lv_iload_n hx hb dX12_registers_27 rfl (lv_at hl 4 rfl) ?_
  refine sw_def (tgt := 216) hx hb [4, 5, 6, 7, 8, 9, 10] dX12_registers_28 (by decide) (by decide) (by rw [h0]; decide) (by decide) ?_
  refine lv_iload_n hx hb dX12_registers_216 rfl (lv_at hl 4 rfl) ?_
  refine lv_bipush (v := 16) hx hb dX12_registers_217 (by decide) ?_
  refine lv_icmp_ge (tgt := 230) hx hb dX12_registers_219 (by decide) (fun c_219 => ?_) (fun c_219 => ?_)
  · skip
    exact absurd c_219 (by rw [h0]; decide)
  · skip
    refine lv_aload_n hx hb dX12_registers_222 rfl (lv_at hl 3 rfl) ?_
    refine lv_iconst (v := 1) hx hb dX12_registers_223 (by decide) ?_
    have hPc : va_P D vwCl (wX12_meet cI cB a_mo a_mem a_mks a_mr a_cnt a_wd a_one a_two a_mmade a_mrest a_old v_thrown v_mask v_key v_wait v_problem v_code v_length v_cond v_masks v_addr v_mwanted v_wrong v_after v_calls v_oneB v_twoB) H := hP.sub [0] rfl
    have hDc : va_D A (wX12_meet cI cB a_mo a_mem a_mks a_mr a_cnt a_wd a_one a_two a_mmade a_mrest a_old v_thrown v_mask v_key v_wait v_problem v_code v_length v_cond v_masks v_addr v_mwanted v_wrong v_after v_calls v_oneB v_twoB) := hD.sub [0] (by decide) rfl
    have hFc := va_free (wc := (wX12_meet cI cB a_mo a_mem a_mks a_mr a_cnt a_wd a_one a_two a_mmade a_mrest a_old v_thrown v_mask v_key v_wait v_problem v_code v_length v_cond v_masks v_addr v_mwanted v_wrong v_after v_calls v_oneB v_twoB)) hD hS hA [0] rfl
    refine va_callv (va_runV (As := [.int 1]) (rest := []) ⟨hx, hb, hml, hown, hts⟩ (kX12_meet l D cI cB a_mo a_mem a_mks a_mr a_cnt a_wd a_one a_two a_mmade a_mrest a_old H.size v_thrown v_mask v_key v_wait v_problem v_code v_length v_cond v_masks v_addr v_mwanted v_wrong v_after v_calls v_oneB v_twoB 1) (cwV 1 hts (gd_V wd_839 wd_840 wd_841 wd_808 wd_836) rfl rfl rfl hdX12_meet ⟨Nat.le_of_ble_eq_true rfl, Nat.le_of_ble_eq_true rfl⟩) (preV_std (ci := 12) (q0 := 0) hPc hK hDc hNW rfl rfl) rfl rfl hl.1 rfl (lv_room (Nat.le_of_ble_eq_true rfl)) dX12_registers_224 ⟨Nat.zero_le _, Nat.zero_le _⟩) hS (fun q _ h => hFc q h) hFc (fun u_224 t9 H1 locs ht9 hvm9 hw9 hB9 hz9 hk9 hS => ?_)
    have eu_224 : u_224 = fX12_meet 1 v_wrong := hw9
    obtain ⟨hP, hD⟩ := back_std (w1 := (wX12_meet cI cB a_mo a_mem a_mks a_mr a_cnt a_wd a_one a_two a_mmade a_mrest a_old v_thrown v_mask v_key v_wait v_problem v_code v_length v_cond v_masks v_addr v_mwanted u_224 v_after v_calls v_oneB v_twoB)) (w2 := (wX12_registers cI cB a_mo a_mem a_mks a_mr a_cnt a_wd a_one a_two a_mmade a_mrest a_old v_thrown v_mask v_key v_wait v_problem v_code v_length v_cond v_masks v_addr v_mwanted u_224 v_after v_calls v_oneB v_twoB v_mrF v_wdF)) (wr := [(a_mr, .inl (cI, 16, .inl v_mrF)), (a_wd, .inl (cI, 6, .inl v_wdF))]) hP hD [0] [1, 2] [2, 0, 1] rfl rfl (by decide) (by decide) hk9 hFc hB9 ht9 (by decide) rfl
    clear hB9 hk9 hz9 hvm9 ht9 hFc hPc hDc
    generalize H1 = H at hP hS ⊢
    refine lv_goto (tgt := 245) hx hb dX12_registers_227 (by decide) ?_
    have hf9 : u_224 = fX12_registers x0 v_wrong v_mrF v_wdF := by subst ex_25; subst ex_18; subst ex_8; simp only [fX12_registers, ← eu_224]
    exact W.vret hx hb hr (fun t9 ht9 hW9 => ⟨⟨u_224, rfl, hf9, ⟨by rw [ht9]; exact hP, va_K.moved hW9.alike hK, hD⟩⟩, hS.F ht9⟩) hS.2.2 dX12_registers_245
theorem hdX12_registers : yX12_registers.cls = RX12 ∧ yX12_registers.cls ≠ "java/lang/invoke/MethodHandle" ∧ yX12_registers.cls ≠ "java/lang/invoke/VarHandle" ∧ (parseMethodDescriptor yX12_registers.desc).map (fun d => d.parameters.length) = some 1 := by decide +kernel
noncomputable def fX12_act (v_wrong : Int32) (v_mrF : (Nat → Int32)) (v_wdF : (Nat → Int32)) : Int32 :=
  let x_6 := (v_wdF (0 : Int32).toNatClampNeg)
  let u_25 := fX12_registers x_6 v_wrong v_mrF v_wdF
  u_25
abbrev wX12_act (cI cB : ClassId) (a_mo a_mem a_mks a_mr a_cnt a_wd a_one a_two a_mmade a_mrest a_old : Nat) (v_thrown : Int32) (v_mask : Int32) (v_key : Int32) (v_wait : Int32) (v_problem : Int32) (v_code : Int32) (v_length : Int32) (v_cond : Int32) (v_masks : Int32) (v_addr : Int32) (v_mwanted : Int32) (v_wrong : Int32) (v_after : Int32) (v_calls : Int32) (v_oneB : Int32) (v_twoB : Int32) (v_mrF : (Nat → Int32)) (v_wdF : (Nat → Int32)) : va_W := [(a_mo, .inr (12, [.int v_thrown, .ref a_mem, .ref a_mks, .ref a_mr, .int v_mask, .int v_key, .int v_wait, .int v_problem, .int v_code, .int v_length, .int v_cond, .int v_masks, .int v_addr, .int v_mwanted, .ref a_cnt, .ref a_wd, .int v_wrong, .int v_after, .int v_calls, .ref a_one, .int v_oneB, .ref a_two, .int v_twoB, .ref a_mmade, .ref a_mrest, .ref a_old])), (a_mr, .inl (cI, 16, .inl v_mrF)), (a_wd, .inl (cI, 6, .inl v_wdF))]
abbrev rmX12_act : Room := { frames := 2, cells := 0, slots := 0, locals := 45 }
abbrev qX12_act (D : va_G) (cI cB : ClassId) (a_mo a_mem a_mks a_mr a_cnt a_wd a_one a_two a_mmade a_mrest a_old : Nat) (v_thrown : Int32) (v_mask : Int32) (v_key : Int32) (v_wait : Int32) (v_problem : Int32) (v_code : Int32) (v_length : Int32) (v_cond : Int32) (v_masks : Int32) (v_addr : Int32) (v_mwanted : Int32) (v_wrong : Int32) (v_after : Int32) (v_calls : Int32) (v_oneB : Int32) (v_twoB : Int32) (v_mrF : (Nat → Int32)) (v_wdF : (Nat → Int32)) : (Nat → Prop) → Array Value → State → Outcome → State → Prop := fun A9 => va_Qv (fun (u9 : Int32) => u9 = fX12_act v_wrong v_mrF v_wdF) (fun u9 t9 => atW D (TYS cI cB) A9 (wX12_act cI cB a_mo a_mem a_mks a_mr a_cnt a_wd a_one a_two a_mmade a_mrest a_old v_thrown v_mask v_key v_wait v_problem v_code v_length v_cond v_masks v_addr v_mwanted u9 v_after v_calls v_oneB v_twoB v_mrF v_wdF) t9) A9
set_option maxHeartbeats 4000000 in
set_option maxRecDepth 100000 in
theorem kX12_act (l : Launch) (D : va_G) (cI cB : ClassId) (a_mo a_mem a_mks a_mr a_cnt a_wd a_one a_two a_mmade a_mrest a_old : Nat) (sz : Nat) (v_thrown : Int32) (v_mask : Int32) (v_key : Int32) (v_wait : Int32) (v_problem : Int32) (v_code : Int32) (v_length : Int32) (v_cond : Int32) (v_masks : Int32) (v_addr : Int32) (v_mwanted : Int32) (v_wrong : Int32) (v_after : Int32) (v_calls : Int32) (v_oneB : Int32) (v_twoB : Int32) (v_mrF : (Nat → Int32)) (v_wdF : (Nat → Int32)) (hw0 : v_wdF (0 : Int32).toNatClampNeg = 0) : MetW l yX12_act (WK yX12_act cX12_act 2 none) rmX12_act D (TYS cI cB) (wX12_act cI cB a_mo a_mem a_mks a_mr a_cnt a_wd a_one a_two a_mmade a_mrest a_old v_thrown v_mask v_key v_wait v_problem v_code v_length v_cond v_masks v_addr v_mwanted v_wrong v_after v_calls v_oneB v_twoB v_mrF v_wdF) sz [.ref a_mo] (qX12_act D cI cB a_mo a_mem a_mks a_mr a_cnt a_wd a_one a_two a_mmade a_mrest a_old v_thrown v_mask v_key v_wait v_problem v_code v_length v_cond v_masks v_addr v_mwanted v_wrong v_after v_calls v_oneB v_twoB v_mrF v_wdF) 0 0 := by
  refine met_std (by decide) rfl (Nat.le_of_ble_eq_true rfl) ?_
  intro p e s m below meth c A ls H hx hb hr hml hown hts hlocks hA hP hK hD hS hNW hl
  have hl : lv_has ls 2 [(0, .ref a_mo)] := hl
  have q_0 := hts _ (List.mem_cons_of_mem _ wd_781)
  refine lv_aload_n hx hb dX12_act_0 rfl (lv_at hl 0 rfl) ?_
  refine va_get (D := D) (ci := 12) (v := .ref a_wd) (C := RX12) (T := TX12) (N := 26) hx hb hts in_X12 hown hK hP 0 rfl rfl 15 (by decide) q_0 (fun _ h9 => h9) rfl dX12_act_1 ?_
  refine lv_iconst (v := 0) hx hb dX12_act_4 (by decide) ?_
  refine va_iald hx hb hK hP 2 0 rfl rfl (by unfold vp_in; decide) dX12_act_5 ?_
  refine lv_topi (fun x_6 ex_6 => ?_)
  refine lv_istore_n (lv' := [(1, .int x_6), (0, .ref a_mo)]) hx hb dX12_act_6 rfl hl (by decide) rfl (fun ls hl => ?_)
  refine lv_iload_n hx hb dX12_act_7 rfl (lv_at hl 0 rfl) ?_
  refine lv_bipush (v := 64) hx hb dX12_act_8 (by decide) ?_
  refine lv_icmp_ge (tgt := 31) hx hb dX12_act_10 (by decide) (fun c_10 => ?_) (fun c_10 => ?_)
  · skip
    exact absurd c_10 (by rw [ex_6, hw0]; decide)
  · skip
    refine lv_aload_n hx hb dX12_act_13 rfl (lv_at hl 1 rfl) ?_
    refine lv_iload_n hx hb dX12_act_14 rfl (lv_at hl 0 rfl) ?_
    refine lv_bipush (v := 32) hx hb dX12_act_15 (by decide) ?_
    refine lv_icmp_ge (tgt := 24) hx hb dX12_act_17 (by decide) (fun c_17 => ?_) (fun c_17 => ?_)
    · skip
      exact absurd c_17 (by rw [ex_6, hw0]; decide)
    · skip
      refine lv_iload_n hx hb dX12_act_20 rfl (lv_at hl 0 rfl) ?_
      refine lv_goto (tgt := 25) hx hb dX12_act_21 (by decide) ?_
      have hPc : va_P D vwCl (wX12_registers cI cB a_mo a_mem a_mks a_mr a_cnt a_wd a_one a_two a_mmade a_mrest a_old v_thrown v_mask v_key v_wait v_problem v_code v_length v_cond v_masks v_addr v_mwanted v_wrong v_after v_calls v_oneB v_twoB v_mrF v_wdF) H := hP.sub [0, 1, 2] rfl
      have hDc : va_D A (wX12_registers cI cB a_mo a_mem a_mks a_mr a_cnt a_wd a_one a_two a_mmade a_mrest a_old v_thrown v_mask v_key v_wait v_problem v_code v_length v_cond v_masks v_addr v_mwanted v_wrong v_after v_calls v_oneB v_twoB v_mrF v_wdF) := hD.sub [0, 1, 2] (by decide) rfl
      have hFc := va_free (wc := (wX12_registers cI cB a_mo a_mem a_mks a_mr a_cnt a_wd a_one a_two a_mmade a_mrest a_old v_thrown v_mask v_key v_wait v_problem v_code v_length v_cond v_masks v_addr v_mwanted v_wrong v_after v_calls v_oneB v_twoB v_mrF v_wdF)) hD hS hA [0, 1, 2] rfl
      refine va_callv (va_runV (As := [.int x_6]) (rest := []) ⟨hx, hb, hml, hown, hts⟩ (kX12_registers l D cI cB a_mo a_mem a_mks a_mr a_cnt a_wd a_one a_two a_mmade a_mrest a_old H.size v_thrown v_mask v_key v_wait v_problem v_code v_length v_cond v_masks v_addr v_mwanted v_wrong v_after v_calls v_oneB v_twoB v_mrF v_wdF x_6 (ex_6.trans hw0)) (cwV 1 hts (gd_V wd_1011 wd_1012 wd_1013 wd_808 wd_927) rfl rfl rfl hdX12_registers ⟨Nat.le_of_ble_eq_true rfl, Nat.le_of_ble_eq_true rfl⟩) (preV_std (ci := 12) (q0 := 0) hPc hK hDc hNW rfl rfl) rfl rfl hl.1 rfl (lv_room (Nat.le_of_ble_eq_true rfl)) dX12_act_25 ⟨Nat.zero_le _, Nat.zero_le _⟩) hS (fun q _ h => hFc q h) hFc (fun u_25 t9 H1 locs ht9 hvm9 hw9 hB9 hz9 hk9 hS => ?_)
      have eu_25 : u_25 = fX12_registers x_6 v_wrong v_mrF v_wdF := hw9
      obtain ⟨hP, hD⟩ := back_std (w1 := (wX12_registers cI cB a_mo a_mem a_mks a_mr a_cnt a_wd a_one a_two a_mmade a_mrest a_old v_thrown v_mask v_key v_wait v_problem v_code v_length v_cond v_masks v_addr v_mwanted u_25 v_after v_calls v_oneB v_twoB v_mrF v_wdF)) (w2 := (wX12_act cI cB a_mo a_mem a_mks a_mr a_cnt a_wd a_one a_two a_mmade a_mrest a_old v_thrown v_mask v_key v_wait v_problem v_code v_length v_cond v_masks v_addr v_mwanted u_25 v_after v_calls v_oneB v_twoB v_mrF v_wdF)) (wr := []) hP hD [0, 1, 2] [] [0, 1, 2] rfl rfl (by decide) (by decide) hk9 hFc hB9 ht9 (by decide) rfl
      clear hB9 hk9 hz9 hvm9 ht9 hFc hPc hDc
      generalize H1 = H at hP hS ⊢
      refine lv_goto (tgt := 80) hx hb dX12_act_28 (by decide) ?_
      have hf9 : u_25 = fX12_act v_wrong v_mrF v_wdF := by subst ex_6; simp only [fX12_act, ← eu_25]
      exact W.vret hx hb hr (fun t9 ht9 hW9 => ⟨⟨u_25, rfl, hf9, ⟨by rw [ht9]; exact hP, va_K.moved hW9.alike hK, hD⟩⟩, hS.F ht9⟩) hS.2.2 dX12_act_80
theorem hdX12_act : yX12_act.cls = RX12 ∧ yX12_act.cls ≠ "java/lang/invoke/MethodHandle" ∧ yX12_act.cls ≠ "java/lang/invoke/VarHandle" ∧ (parseMethodDescriptor yX12_act.desc).map (fun d => d.parameters.length) = some 0 := by decide +kernel
