noncomputable def fX12_instruction (v_mask : Int32) (v_key : Int32) (v_wait : Int32) (v_problem : Int32) (v_code : Int32) (v_length : Int32) (v_cond : Int32) (v_masks : Int32) (v_addr : Int32) (v_wrong : Int32) (v_after : Int32) (v_calls : Int32) (v_mF : (Nat → Int32)) (v_mkF : (Nat → Int32)) (v_mrF : (Nat → Int32)) (v_cntF : (Nat → Int32)) (v_wdF : (Nat → Int32)) : (Int32 × Int32 × Int32 × Int32 × Int32 × Int32 × Int32 × Int32 × Int32 × Int32 × Int32 × Int32 × (Nat → Int32) × (Nat → Int32) × (Nat → Int32)) :=
  let u_24 := fX12_look v_addr 2 0 v_key 0 v_mkF
  let u_30 := fX12_even v_addr 2 u_24
  let r_70 := fX12_halvesOf (v_mF (v_addr : Int32).toNatClampNeg)
  let x_88 := ((v_addr + (2 * r_70)) &&& 16777215)
  let p_93 := fX12_taken v_addr v_key u_30 v_mF v_mkF v_wdF
  let r_93 := p_93.1
  let u_93 := p_93.2
  let u_196 := fX12_act u_93.1 v_mrF u_93.2
  let f_222 := upd v_cntF (0 : Int32).toNatClampNeg (((v_cntF (0 : Int32).toNatClampNeg) + 1))
  let u_250 := fX12_interrupt 40 104 u_196 r_70 v_mask v_key v_wait v_problem v_code r_70 v_cond v_masks x_88 v_mF
  (u_250.1, u_250.2.1, u_250.2.2.1, u_250.2.2.2.1, u_250.2.2.2.2.1, u_250.2.2.2.2.2.1, u_250.2.2.2.2.2.2.1, u_250.2.2.2.2.2.2.2.1, u_250.2.2.2.2.2.2.2.2.1, u_196, 0, 0, u_250.2.2.2.2.2.2.2.2.2, f_222, u_93.2)
abbrev wX12_instruction (cI cB : ClassId) (a_mo a_mem a_mks a_mr a_cnt a_wd a_one a_two a_mmade a_mrest a_old : Nat) (v_thrown : Int32) (v_mask : Int32) (v_key : Int32) (v_wait : Int32) (v_problem : Int32) (v_code : Int32) (v_length : Int32) (v_cond : Int32) (v_masks : Int32) (v_addr : Int32) (v_mwanted : Int32) (v_wrong : Int32) (v_after : Int32) (v_calls : Int32) (v_oneB : Int32) (v_twoB : Int32) (v_mF : (Nat → Int32)) (v_mkF : (Nat → Int32)) (v_mrF : (Nat → Int32)) (v_cntF : (Nat → Int32)) (v_wdF : (Nat → Int32)) : va_W := [(a_mo, .inr (12, [.int v_thrown, .ref a_mem, .ref a_mks, .ref a_mr, .int v_mask, .int v_key, .int v_wait, .int v_problem, .int v_code, .int v_length, .int v_cond, .int v_masks, .int v_addr, .int v_mwanted, .ref a_cnt, .ref a_wd, .int v_wrong, .int v_after, .int v_calls, .ref a_one, .int v_oneB, .ref a_two, .int v_twoB, .ref a_mmade, .ref a_mrest, .ref a_old])), (a_mem, .inl (cI, 8192, .inl v_mF)), (a_mks, .inl (cI, 4, .inl v_mkF)), (a_mr, .inl (cI, 16, .inl v_mrF)), (a_cnt, .inl (cI, 3, .inl v_cntF)), (a_wd, .inl (cI, 6, .inl v_wdF))]
abbrev rmX12_instruction : Room := { frames := 3, cells := 0, slots := 0, locals := 71 }
abbrev qX12_instruction (D : va_G) (cI cB : ClassId) (a_mo a_mem a_mks a_mr a_cnt a_wd a_one a_two a_mmade a_mrest a_old : Nat) (v_thrown : Int32) (v_mask : Int32) (v_key : Int32) (v_wait : Int32) (v_problem : Int32) (v_code : Int32) (v_length : Int32) (v_cond : Int32) (v_masks : Int32) (v_addr : Int32) (v_mwanted : Int32) (v_wrong : Int32) (v_after : Int32) (v_calls : Int32) (v_oneB : Int32) (v_twoB : Int32) (v_mF : (Nat → Int32)) (v_mkF : (Nat → Int32)) (v_mrF : (Nat → Int32)) (v_cntF : (Nat → Int32)) (v_wdF : (Nat → Int32)) : (Nat → Prop) → Array Value → State → Outcome → State → Prop := fun A9 => va_Qv (fun (u9 : (Int32 × Int32 × Int32 × Int32 × Int32 × Int32 × Int32 × Int32 × Int32 × Int32 × Int32 × Int32 × (Nat → Int32) × (Nat → Int32) × (Nat → Int32))) => u9 = fX12_instruction v_mask v_key v_wait v_problem v_code v_length v_cond v_masks v_addr v_wrong v_after v_calls v_mF v_mkF v_mrF v_cntF v_wdF) (fun u9 t9 => atW D (TYS cI cB) A9 (wX12_instruction cI cB a_mo a_mem a_mks a_mr a_cnt a_wd a_one a_two a_mmade a_mrest a_old v_thrown u9.1 u9.2.1 u9.2.2.1 u9.2.2.2.1 u9.2.2.2.2.1 u9.2.2.2.2.2.1 u9.2.2.2.2.2.2.1 u9.2.2.2.2.2.2.2.1 u9.2.2.2.2.2.2.2.2.1 v_mwanted u9.2.2.2.2.2.2.2.2.2.1 u9.2.2.2.2.2.2.2.2.2.2.1 u9.2.2.2.2.2.2.2.2.2.2.2.1 v_oneB v_twoB u9.2.2.2.2.2.2.2.2.2.2.2.2.1 v_mkF v_mrF u9.2.2.2.2.2.2.2.2.2.2.2.2.2.1 u9.2.2.2.2.2.2.2.2.2.2.2.2.2.2) t9) A9
set_option maxHeartbeats 4000000 in
set_option maxRecDepth 100000 in
theorem kX12_instruction (l : Launch) (D : va_G) (cI cB : ClassId) (a_mo a_mem a_mks a_mr a_cnt a_wd a_one a_two a_mmade a_mrest a_old : Nat) (sz : Nat) (v_thrown : Int32) (v_mask : Int32) (v_key : Int32) (v_wait : Int32) (v_problem : Int32) (v_code : Int32) (v_length : Int32) (v_cond : Int32) (v_masks : Int32) (v_addr : Int32) (v_mwanted : Int32) (v_wrong : Int32) (v_after : Int32) (v_calls : Int32) (v_oneB : Int32) (v_twoB : Int32) (v_mF : (Nat → Int32)) (v_mkF : (Nat → Int32)) (v_mrF : (Nat → Int32)) (v_cntF : (Nat → Int32)) (v_wdF : (Nat → Int32)) (h0 : v_addr = 0) (h1 : v_key = 0) (h2 : v_mF (0 : Int32).toNatClampNeg = 0) (h3 : v_mF (1 : Int32).toNatClampNeg = 0) : MetW l yX12_instruction (WK yX12_instruction cX12_instruction 6 none) rmX12_instruction D (TYS cI cB) (wX12_instruction cI cB a_mo a_mem a_mks a_mr a_cnt a_wd a_one a_two a_mmade a_mrest a_old v_thrown v_mask v_key v_wait v_problem v_code v_length v_cond v_masks v_addr v_mwanted v_wrong v_after v_calls v_oneB v_twoB v_mF v_mkF v_mrF v_cntF v_wdF) sz [.ref a_mo] (qX12_instruction D cI cB a_mo a_mem a_mks a_mr a_cnt a_wd a_one a_two a_mmade a_mrest a_old v_thrown v_mask v_key v_wait v_problem v_code v_length v_cond v_masks v_addr v_mwanted v_wrong v_after v_calls v_oneB v_twoB v_mF v_mkF v_mrF v_cntF v_wdF) 0 0 := by
  refine met_std (by decide) rfl (Nat.le_of_ble_eq_true rfl) ?_
  intro p e s m below meth c A ls H hx hb hr hml hown hts hlocks hA hP hK hD hS hNW hl
  have hl : lv_has ls 6 [(0, .ref a_mo)] := hl
  have q_0 := hts _ (List.mem_cons_of_mem _ wd_837)
  have q_1 := hts _ (List.mem_cons_of_mem _ wd_849)
  have q_2 := hts _ (List.mem_cons_of_mem _ wd_917)
  have q_3 := hts _ (List.mem_cons_of_mem _ wd_795)
  have q_4 := hts _ (List.mem_cons_of_mem _ wd_777)
  have q_5 := hts _ (List.mem_cons_of_mem _ wd_792)
  have q_6 := hts _ (List.mem_cons_of_mem _ wd_811)
  have q_7 := hts _ (List.mem_cons_of_mem _ wd_781)
  have q_8 := hts _ (List.mem_cons_of_mem _ wd_780)
  refine lv_aload_n hx hb dX12_instruction_0 rfl (lv_at hl 0 rfl) ?_
  refine lv_iconst (v := 0) hx hb dX12_instruction_1 (by decide) ?_
  refine va_put (D := D) (ci := 12) (v := .int 0) (ty := .int) (C := RX12) (T := TX12) (N := 26) hx hb hts in_X12 tyX12 tyX12_ok nmX12 hown hK hP hD hS 0 rfl rfl 16 (by decide) q_0 (fun _ h9 => h9) rfl (by decide +kernel) rfl rfl (Nat.le_of_ble_eq_true rfl) dX12_instruction_2 (fun H locs hP hD hS => ?_)
  have hP : va_P D vwCl (wX12_instruction cI cB a_mo a_mem a_mks a_mr a_cnt a_wd a_one a_two a_mmade a_mrest a_old v_thrown v_mask v_key v_wait v_problem v_code v_length v_cond v_masks v_addr v_mwanted 0 v_after v_calls v_oneB v_twoB v_mF v_mkF v_mrF v_cntF v_wdF) H := hP
  have hD : va_D A (wX12_instruction cI cB a_mo a_mem a_mks a_mr a_cnt a_wd a_one a_two a_mmade a_mrest a_old v_thrown v_mask v_key v_wait v_problem v_code v_length v_cond v_masks v_addr v_mwanted 0 v_after v_calls v_oneB v_twoB v_mF v_mkF v_mrF v_cntF v_wdF) := hD
  refine lv_aload_n hx hb dX12_instruction_5 rfl (lv_at hl 0 rfl) ?_
  refine lv_iconst (v := 0) hx hb dX12_instruction_6 (by decide) ?_
  refine va_put (D := D) (ci := 12) (v := .int 0) (ty := .int) (C := RX12) (T := TX12) (N := 26) hx hb hts in_X12 tyX12 tyX12_ok nmX12 hown hK hP hD hS 0 rfl rfl 17 (by decide) q_1 (fun _ h9 => h9) rfl (by decide +kernel) rfl rfl (Nat.le_of_ble_eq_true rfl) dX12_instruction_7 (fun H locs hP hD hS => ?_)
  have hP : va_P D vwCl (wX12_instruction cI cB a_mo a_mem a_mks a_mr a_cnt a_wd a_one a_two a_mmade a_mrest a_old v_thrown v_mask v_key v_wait v_problem v_code v_length v_cond v_masks v_addr v_mwanted 0 0 v_calls v_oneB v_twoB v_mF v_mkF v_mrF v_cntF v_wdF) H := hP
  have hD : va_D A (wX12_instruction cI cB a_mo a_mem a_mks a_mr a_cnt a_wd a_one a_two a_mmade a_mrest a_old v_thrown v_mask v_key v_wait v_problem v_code v_length v_cond v_masks v_addr v_mwanted 0 0 v_calls v_oneB v_twoB v_mF v_mkF v_mrF v_cntF v_wdF) := hD
  refine lv_aload_n hx hb dX12_instruction_10 rfl (lv_at hl 0 rfl) ?_
  refine lv_iconst (v := 0) hx hb dX12_instruction_11 (by decide) ?_
  refine va_put (D := D) (ci := 12) (v := .int 0) (ty := .boolean) (C := RX12) (T := TX12) (N := 26) hx hb hts in_X12 tyX12 tyX12_ok nmX12 hown hK hP hD hS 0 rfl rfl 18 (by decide) q_2 (fun _ h9 => h9) rfl (by decide +kernel) rfl rfl (Nat.le_of_ble_eq_true rfl) dX12_instruction_12 (fun H locs hP hD hS => ?_)
  have hP : va_P D vwCl (wX12_instruction cI cB a_mo a_mem a_mks a_mr a_cnt a_wd a_one a_two a_mmade a_mrest a_old v_thrown v_mask v_key v_wait v_problem v_code v_length v_cond v_masks v_addr v_mwanted 0 0 0 v_oneB v_twoB v_mF v_mkF v_mrF v_cntF v_wdF) H := hP
  have hD : va_D A (wX12_instruction cI cB a_mo a_mem a_mks a_mr a_cnt a_wd a_one a_two a_mmade a_mrest a_old v_thrown v_mask v_key v_wait v_problem v_code v_length v_cond v_masks v_addr v_mwanted 0 0 0 v_oneB v_twoB v_mF v_mkF v_mrF v_cntF v_wdF) := hD
  refine lv_aload_n hx hb dX12_instruction_15 rfl (lv_at hl 0 rfl) ?_
  refine va_get (D := D) (ci := 12) (v := .int v_addr) (C := RX12) (T := TX12) (N := 26) hx hb hts in_X12 hown hK hP 0 rfl rfl 12 (by decide) q_3 (fun _ h9 => h9) rfl dX12_instruction_16 ?_
  refine lv_istore_n (lv' := [(1, .int v_addr), (0, .ref a_mo)]) hx hb dX12_instruction_19 rfl hl (by decide) rfl (fun ls hl => ?_)
  refine lv_aload_n hx hb dX12_instruction_20 rfl (lv_at hl 1 rfl) ?_
  refine lv_iload_n hx hb dX12_instruction_21 rfl (lv_at hl 0 rfl) ?_
  refine lv_iconst (v := 2) hx hb dX12_instruction_22 (by decide) ?_
  refine lv_iconst (v := 0) hx hb dX12_instruction_23 (by decide) ?_
  have hPc : va_P D vwCl (wX12_look cI cB a_mo a_mem a_mks a_mr a_cnt a_wd a_one a_two a_mmade a_mrest a_old v_thrown v_mask v_key v_wait v_problem v_code v_length v_cond v_masks v_addr v_mwanted 0 0 0 v_oneB v_twoB v_mkF) H := hP.sub [0, 2] rfl
  have hDc : va_D A (wX12_look cI cB a_mo a_mem a_mks a_mr a_cnt a_wd a_one a_two a_mmade a_mrest a_old v_thrown v_mask v_key v_wait v_problem v_code v_length v_cond v_masks v_addr v_mwanted 0 0 0 v_oneB v_twoB v_mkF) := hD.sub [0, 2] (by decide) rfl
  have hFc := va_free (wc := (wX12_look cI cB a_mo a_mem a_mks a_mr a_cnt a_wd a_one a_two a_mmade a_mrest a_old v_thrown v_mask v_key v_wait v_problem v_code v_length v_cond v_masks v_addr v_mwanted 0 0 0 v_oneB v_twoB v_mkF)) hD hS hA [0, 2] rfl
  refine va_callv (va_runV (As := [.int v_addr, .int 2, .int 0]) (rest := []) ⟨hx, hb, hml, hown, hts⟩ (kX12_look l D cI cB a_mo a_mem a_mks a_mr a_cnt a_wd a_one a_two a_mmade a_mrest a_old H.size v_thrown v_mask v_key v_wait v_problem v_code v_length v_cond v_masks v_addr v_mwanted 0 0 0 v_oneB v_twoB v_mkF v_addr 2 0) (cwV 3 hts (gd_V wd_858 wd_859 wd_860 wd_808 wd_838) rfl rfl rfl hdX12_look ⟨Nat.le_of_ble_eq_true rfl, Nat.le_of_ble_eq_true rfl⟩) (preV_std (ci := 12) (q0 := 0) hPc hK hDc hNW rfl rfl) rfl rfl hl.1 rfl (lv_room (Nat.le_of_ble_eq_true rfl)) dX12_instruction_24 ⟨Nat.zero_le _, Nat.zero_le _⟩) hS (fun q _ h => hFc q h) hFc (fun u_24 t9 H1 locs ht9 hvm9 hw9 hB9 hz9 hk9 hS => ?_)
  have eu_24 : u_24 = fX12_look v_addr 2 0 v_key 0 v_mkF := hw9
  obtain ⟨hP, hD⟩ := back_std (w1 := (wX12_look cI cB a_mo a_mem a_mks a_mr a_cnt a_wd a_one a_two a_mmade a_mrest a_old v_thrown v_mask v_key v_wait v_problem v_code v_length v_cond v_masks v_addr v_mwanted u_24 0 0 v_oneB v_twoB v_mkF)) (w2 := (wX12_instruction cI cB a_mo a_mem a_mks a_mr a_cnt a_wd a_one a_two a_mmade a_mrest a_old v_thrown v_mask v_key v_wait v_problem v_code v_length v_cond v_masks v_addr v_mwanted u_24 0 0 v_oneB v_twoB v_mF v_mkF v_mrF v_cntF v_wdF)) (wr := [(a_mem, .inl (cI, 8192, .inl v_mF)), (a_mr, .inl (cI, 16, .inl v_mrF)), (a_cnt, .inl (cI, 3, .inl v_cntF)), (a_wd, .inl (cI, 6, .inl v_wdF))]) hP hD [0, 2] [1, 3, 4, 5] [4, 0, 5, 1, 2, 3] rfl rfl (by decide) (by decide) hk9 hFc hB9 ht9 (by decide) rfl
  clear hB9 hk9 hz9 hvm9 ht9 hFc hPc hDc
  generalize H1 = H at hP hS ⊢
  refine lv_aload_n hx hb dX12_instruction_27 rfl (lv_at hl 1 rfl) ?_
  refine lv_iload_n hx hb dX12_instruction_28 rfl (lv_at hl 0 rfl) ?_
  refine lv_iconst (v := 2) hx hb dX12_instruction_29 (by decide) ?_
  have hPc : va_P D vwCl (wX12_even cI cB a_mo a_mem a_mks a_mr a_cnt a_wd a_one a_two a_mmade a_mrest a_old v_thrown v_mask v_key v_wait v_problem v_code v_length v_cond v_masks v_addr v_mwanted u_24 0 0 v_oneB v_twoB) H := hP.sub [0] rfl
  have hDc : va_D A (wX12_even cI cB a_mo a_mem a_mks a_mr a_cnt a_wd a_one a_two a_mmade a_mrest a_old v_thrown v_mask v_key v_wait v_problem v_code v_length v_cond v_masks v_addr v_mwanted u_24 0 0 v_oneB v_twoB) := hD.sub [0] (by decide) rfl
  have hFc := va_free (wc := (wX12_even cI cB a_mo a_mem a_mks a_mr a_cnt a_wd a_one a_two a_mmade a_mrest a_old v_thrown v_mask v_key v_wait v_problem v_code v_length v_cond v_masks v_addr v_mwanted u_24 0 0 v_oneB v_twoB)) hD hS hA [0] rfl
  refine va_callv (va_runV (As := [.int v_addr, .int 2]) (rest := []) ⟨hx, hb, hml, hown, hts⟩ (kX12_even l D cI cB a_mo a_mem a_mks a_mr a_cnt a_wd a_one a_two a_mmade a_mrest a_old H.size v_thrown v_mask v_key v_wait v_problem v_code v_length v_cond v_masks v_addr v_mwanted u_24 0 0 v_oneB v_twoB v_addr 2 (by first | with_reducible assumption | decide | (unfold vp_in; decide))) (cwV 2 hts (gd_V wd_861 wd_862 wd_863 wd_808 wd_842) rfl rfl rfl hdX12_even ⟨Nat.le_of_ble_eq_true rfl, Nat.le_of_ble_eq_true rfl⟩) (preV_std (ci := 12) (q0 := 0) hPc hK hDc hNW rfl rfl) rfl rfl hl.1 rfl (lv_room (Nat.le_of_ble_eq_true rfl)) dX12_instruction_30 ⟨Nat.zero_le _, Nat.zero_le _⟩) hS (fun q _ h => hFc q h) hFc (fun u_30 t9 H1 locs ht9 hvm9 hw9 hB9 hz9 hk9 hS => ?_)
  have eu_30 : u_30 = fX12_even v_addr 2 u_24 := hw9
  obtain ⟨hP, hD⟩ := back_std (w1 := (wX12_even cI cB a_mo a_mem a_mks a_mr a_cnt a_wd a_one a_two a_mmade a_mrest a_old v_thrown v_mask v_key v_wait v_problem v_code v_length v_cond v_masks v_addr v_mwanted u_30 0 0 v_oneB v_twoB)) (w2 := (wX12_instruction cI cB a_mo a_mem a_mks a_mr a_cnt a_wd a_one a_two a_mmade a_mrest a_old v_thrown v_mask v_key v_wait v_problem v_code v_length v_cond v_masks v_addr v_mwanted u_30 0 0 v_oneB v_twoB v_mF v_mkF v_mrF v_cntF v_wdF)) (wr := [(a_mem, .inl (cI, 8192, .inl v_mF)), (a_mks, .inl (cI, 4, .inl v_mkF)), (a_mr, .inl (cI, 16, .inl v_mrF)), (a_cnt, .inl (cI, 3, .inl v_cntF)), (a_wd, .inl (cI, 6, .inl v_wdF))]) hP hD [0] [1, 2, 3, 4, 5] [5, 0, 1, 2, 3, 4] rfl rfl (by decide) (by decide) hk9 hFc hB9 ht9 (by decide) rfl
  clear hB9 hk9 hz9 hvm9 ht9 hFc hPc hDc
  generalize H1 = H at hP hS ⊢
  refine lv_aload_n hx hb dX12_instruction_33 rfl (lv_at hl 1 rfl) ?_
  refine va_get (D := D) (ci := 12) (v := .int u_30) (C := RX12) (T := TX12) (N := 26) hx hb hts in_X12 hown hK hP 0 rfl rfl 16 (by decide) q_0 (fun _ h9 => h9) rfl dX12_instruction_34 ?_
  refine lv_if_le (tgt := 64) hx hb dX12_instruction_37 (by decide) (fun c_37 => ?_) (fun c_37 => ?_)
  · skip
    refine lv_aload_n hx hb dX12_instruction_64 rfl (lv_at hl 1 rfl) ?_
    refine va_get (D := D) (ci := 12) (v := .ref a_mem) (C := RX12) (T := TX12) (N := 26) hx hb hts in_X12 hown hK hP 0 rfl rfl 1 (by decide) q_4 (fun _ h9 => h9) rfl dX12_instruction_65 ?_
    refine lv_iload_n hx hb dX12_instruction_68 rfl (lv_at hl 0 rfl) ?_
    refine va_iald hx hb hK hP 1 0 rfl rfl (by rw [h0]; unfold vp_in; decide) dX12_instruction_69 ?_
    have hPc : va_P D vwCl (wX12_halvesOf cI cB  ) H := hP.sub [] rfl
    have hDc : va_D A (wX12_halvesOf cI cB  ) := hD.sub [] (by decide) rfl
    have hFc := va_free (wc := (wX12_halvesOf cI cB  )) hD hS hA [] rfl
    refine va_calli (va_runS (As := [.int ((v_mF (v_addr : Int32).toNatClampNeg))]) (rest := []) ⟨hx, hb, hml, hown, hts⟩ (kX12_halvesOf l D cI cB  H.size  (v_mF (v_addr : Int32).toNatClampNeg)) (va_cwS 1 hts (gd_S wd_1026 wd_1027 wd_808 wd_1024) rfl rfl rfl hdX12_halvesOf.2 ⟨Nat.le_of_ble_eq_true rfl, Nat.le_of_ble_eq_true rfl⟩) (preS_std hPc hK hDc hNW) rfl rfl hl.1 rfl (lv_room (Nat.le_of_ble_eq_true rfl)) dX12_instruction_70 ⟨Nat.zero_le _, Nat.zero_le _⟩) hS (fun q _ h => hFc q h) hFc (fun r_70 u_70 t9 H1 locs ht9 hvm9 hw9 hB9 hz9 hk9 hS => ?_)
    have er_70 : r_70 = fX12_halvesOf (v_mF (v_addr : Int32).toNatClampNeg) := hw9
    obtain ⟨hP, hD⟩ := back_std (w1 := (wX12_halvesOf cI cB  )) (w2 := (wX12_instruction cI cB a_mo a_mem a_mks a_mr a_cnt a_wd a_one a_two a_mmade a_mrest a_old v_thrown v_mask v_key v_wait v_problem v_code v_length v_cond v_masks v_addr v_mwanted u_30 0 0 v_oneB v_twoB v_mF v_mkF v_mrF v_cntF v_wdF)) (wr := [(a_mo, .inr (12, [.int v_thrown, .ref a_mem, .ref a_mks, .ref a_mr, .int v_mask, .int v_key, .int v_wait, .int v_problem, .int v_code, .int v_length, .int v_cond, .int v_masks, .int v_addr, .int v_mwanted, .ref a_cnt, .ref a_wd, .int u_30, .int 0, .int 0, .ref a_one, .int v_oneB, .ref a_two, .int v_twoB, .ref a_mmade, .ref a_mrest, .ref a_old])), (a_mem, .inl (cI, 8192, .inl v_mF)), (a_mks, .inl (cI, 4, .inl v_mkF)), (a_mr, .inl (cI, 16, .inl v_mrF)), (a_cnt, .inl (cI, 3, .inl v_cntF)), (a_wd, .inl (cI, 6, .inl v_wdF))]) hP hD [] [0, 1, 2, 3, 4, 5] [0, 1, 2, 3, 4, 5] rfl rfl (by decide) (by decide) hk9 hFc hB9 ht9 (by decide) rfl
    clear hB9 hk9 hz9 hvm9 ht9 hFc hPc hDc
    generalize H1 = H at hP hS ⊢
    refine lv_istore_n (lv' := [(2, .int r_70), (1, .int v_addr), (0, .ref a_mo)]) hx hb dX12_instruction_73 rfl hl (by decide) rfl (fun ls hl => ?_)
    refine lv_aload_n hx hb dX12_instruction_74 rfl (lv_at hl 2 rfl) ?_
    refine lv_iload_n hx hb dX12_instruction_75 rfl (lv_at hl 0 rfl) ?_
    refine va_put (D := D) (ci := 12) (v := .int r_70) (ty := .int) (C := RX12) (T := TX12) (N := 26) hx hb hts in_X12 tyX12 tyX12_ok nmX12 hown hK hP hD hS 0 rfl rfl 9 (by decide) q_5 (fun _ h9 => h9) rfl (by decide +kernel) rfl rfl (Nat.le_of_ble_eq_true rfl) dX12_instruction_76 (fun H locs hP hD hS => ?_)
    have hP : va_P D vwCl (wX12_instruction cI cB a_mo a_mem a_mks a_mr a_cnt a_wd a_one a_two a_mmade a_mrest a_old v_thrown v_mask v_key v_wait v_problem v_code r_70 v_cond v_masks v_addr v_mwanted u_30 0 0 v_oneB v_twoB v_mF v_mkF v_mrF v_cntF v_wdF) H := hP
    have hD : va_D A (wX12_instruction cI cB a_mo a_mem a_mks a_mr a_cnt a_wd a_one a_two a_mmade a_mrest a_old v_thrown v_mask v_key v_wait v_problem v_code r_70 v_cond v_masks v_addr v_mwanted u_30 0 0 v_oneB v_twoB v_mF v_mkF v_mrF v_cntF v_wdF) := hD
    refine lv_aload_n hx hb dX12_instruction_79 rfl (lv_at hl 2 rfl) ?_
    refine lv_iload_n hx hb dX12_instruction_80 rfl (lv_at hl 1 rfl) ?_
    refine lv_iconst (v := 2) hx hb dX12_instruction_81 (by decide) ?_
    refine lv_iload_n hx hb dX12_instruction_82 rfl (lv_at hl 0 rfl) ?_
    refine lv_imul hx hb dX12_instruction_83 ?_
    refine lv_iadd hx hb dX12_instruction_84 ?_
    refine lv_ldc (v := 16777215) hx hb hown q_6 dX12_instruction_85 ?_
    refine lv_iand hx hb dX12_instruction_87 ?_
    refine lv_topi (fun x_88 ex_88 => ?_)
    refine va_put (D := D) (ci := 12) (v := .int x_88) (ty := .int) (C := RX12) (T := TX12) (N := 26) hx hb hts in_X12 tyX12 tyX12_ok nmX12 hown hK hP hD hS 0 rfl rfl 12 (by decide) q_3 (fun _ h9 => h9) rfl (by decide +kernel) rfl rfl (Nat.le_of_ble_eq_true rfl) dX12_instruction_88 (fun H locs hP hD hS => ?_)
    have hP : va_P D vwCl (wX12_instruction cI cB a_mo a_mem a_mks a_mr a_cnt a_wd a_one a_two a_mmade a_mrest a_old v_thrown v_mask v_key v_wait v_problem v_code r_70 v_cond v_masks x_88 v_mwanted u_30 0 0 v_oneB v_twoB v_mF v_mkF v_mrF v_cntF v_wdF) H := hP
    have hD : va_D A (wX12_instruction cI cB a_mo a_mem a_mks a_mr a_cnt a_wd a_one a_two a_mmade a_mrest a_old v_thrown v_mask v_key v_wait v_problem v_code r_70 v_cond v_masks x_88 v_mwanted u_30 0 0 v_oneB v_twoB v_mF v_mkF v_mrF v_cntF v_wdF) := hD
    refine lv_aload_n hx hb dX12_instruction_91 rfl (lv_at hl 2 rfl) ?_
    refine lv_iload_n hx hb dX12_instruction_92 rfl (lv_at hl 1 rfl) ?_
    have hPc : va_P D vwCl (wX12_taken cI cB a_mo a_mem a_mks a_mr a_cnt a_wd a_one a_two a_mmade a_mrest a_old v_thrown v_mask v_key v_wait v_problem v_code r_70 v_cond v_masks x_88 v_mwanted u_30 0 0 v_oneB v_twoB v_mF v_mkF v_wdF) H := hP.sub [0, 1, 2, 5] rfl
    have hDc : va_D A (wX12_taken cI cB a_mo a_mem a_mks a_mr a_cnt a_wd a_one a_two a_mmade a_mrest a_old v_thrown v_mask v_key v_wait v_problem v_code r_70 v_cond v_masks x_88 v_mwanted u_30 0 0 v_oneB v_twoB v_mF v_mkF v_wdF) := hD.sub [0, 1, 2, 5] (by decide) rfl
    have hFc := va_free (wc := (wX12_taken cI cB a_mo a_mem a_mks a_mr a_cnt a_wd a_one a_two a_mmade a_mrest a_old v_thrown v_mask v_key v_wait v_problem v_code r_70 v_cond v_masks x_88 v_mwanted u_30 0 0 v_oneB v_twoB v_mF v_mkF v_wdF)) hD hS hA [0, 1, 2, 5] rfl
    refine va_calli (va_runV (As := [.int v_addr]) (rest := []) ⟨hx, hb, hml, hown, hts⟩ (kX12_taken l D cI cB a_mo a_mem a_mks a_mr a_cnt a_wd a_one a_two a_mmade a_mrest a_old H.size v_thrown v_mask v_key v_wait v_problem v_code r_70 v_cond v_masks x_88 v_mwanted u_30 0 0 v_oneB v_twoB v_mF v_mkF v_wdF v_addr (by rw [h0]; decide) (p1_b h0 h1 eu_24 eu_30)) (cwV 1 hts (gd_V wd_1031 wd_1032 wd_1033 wd_808 wd_1025) rfl rfl rfl hdX12_taken ⟨Nat.le_of_ble_eq_true rfl, Nat.le_of_ble_eq_true rfl⟩) (preV_std (ci := 12) (q0 := 0) hPc hK hDc hNW rfl rfl) rfl rfl hl.1 rfl (lv_room (Nat.le_of_ble_eq_true rfl)) dX12_instruction_93 ⟨Nat.zero_le _, Nat.zero_le _⟩) hS (fun q _ h => hFc q h) hFc (fun r_93 u_93 t9 H1 locs ht9 hvm9 hw9 hB9 hz9 hk9 hS => ?_)
    obtain ⟨er_93, eu_93⟩ := hw9
    have zr_93 : r_93 = 0 ∨ r_93 = 1 := by rw [er_93]; exact zX12_taken _ _ _ _ _ _
    obtain ⟨hP, hD⟩ := back_std (w1 := (wX12_taken cI cB a_mo a_mem a_mks a_mr a_cnt a_wd a_one a_two a_mmade a_mrest a_old v_thrown v_mask v_key v_wait v_problem v_code r_70 v_cond v_masks x_88 v_mwanted u_93.1 0 0 v_oneB v_twoB v_mF v_mkF u_93.2)) (w2 := (wX12_instruction cI cB a_mo a_mem a_mks a_mr a_cnt a_wd a_one a_two a_mmade a_mrest a_old v_thrown v_mask v_key v_wait v_problem v_code r_70 v_cond v_masks x_88 v_mwanted u_93.1 0 0 v_oneB v_twoB v_mF v_mkF v_mrF v_cntF u_93.2)) (wr := [(a_mr, .inl (cI, 16, .inl v_mrF)), (a_cnt, .inl (cI, 3, .inl v_cntF))]) hP hD [0, 1, 2, 5] [3, 4] [2, 3, 4, 0, 1, 5] rfl rfl (by decide) (by decide) hk9 hFc hB9 ht9 (by decide) rfl
    clear hB9 hk9 hz9 hvm9 ht9 hFc hPc hDc
    generalize H1 = H at hP hS ⊢
    refine lv_if_eq (tgt := 199) hx hb dX12_instruction_96 (by decide) (fun c_96 => ?_) (fun c_96 => ?_)
    · skip
      exact absurd c_96 (p1_c h0 h1 h2 h3 eu_24 eu_30 er_93)
    · skip
      refine lv_aload_n hx hb dX12_instruction_99 rfl (lv_at hl 2 rfl) ?_
      refine va_get (D := D) (ci := 12) (v := .ref a_wd) (C := RX12) (T := TX12) (N := 26) hx hb hts in_X12 hown hK hP 0 rfl rfl 15 (by decide) q_7 (fun _ h9 => h9) rfl dX12_instruction_100 ?_
      refine lv_iconst (v := 0) hx hb dX12_instruction_103 (by decide) ?_
      refine va_iald hx hb hK hP 5 0 rfl rfl (by unfold vp_in; decide) dX12_instruction_104 ?_
      refine lv_bipush (v := 68) hx hb dX12_instruction_105 (by decide) ?_
      refine lv_icmp_ne (tgt := 195) hx hb dX12_instruction_107 (by decide) (fun c_107 => ?_) (fun c_107 => ?_)
      · skip
        refine lv_aload_n hx hb dX12_instruction_195 rfl (lv_at hl 2 rfl) ?_
        have hPc : va_P D vwCl (wX12_act cI cB a_mo a_mem a_mks a_mr a_cnt a_wd a_one a_two a_mmade a_mrest a_old v_thrown v_mask v_key v_wait v_problem v_code r_70 v_cond v_masks x_88 v_mwanted u_93.1 0 0 v_oneB v_twoB v_mrF u_93.2) H := hP.sub [0, 3, 5] rfl
        have hDc : va_D A (wX12_act cI cB a_mo a_mem a_mks a_mr a_cnt a_wd a_one a_two a_mmade a_mrest a_old v_thrown v_mask v_key v_wait v_problem v_code r_70 v_cond v_masks x_88 v_mwanted u_93.1 0 0 v_oneB v_twoB v_mrF u_93.2) := hD.sub [0, 3, 5] (by decide) rfl
        have hFc := va_free (wc := (wX12_act cI cB a_mo a_mem a_mks a_mr a_cnt a_wd a_one a_two a_mmade a_mrest a_old v_thrown v_mask v_key v_wait v_problem v_code r_70 v_cond v_masks x_88 v_mwanted u_93.1 0 0 v_oneB v_twoB v_mrF u_93.2)) hD hS hA [0, 3, 5] rfl
        refine va_callv (va_runV (As := []) (rest := []) ⟨hx, hb, hml, hown, hts⟩ (kX12_act l D cI cB a_mo a_mem a_mks a_mr a_cnt a_wd a_one a_two a_mmade a_mrest a_old H.size v_thrown v_mask v_key v_wait v_problem v_code r_70 v_cond v_masks x_88 v_mwanted u_93.1 0 0 v_oneB v_twoB v_mrF u_93.2  (p1_w h0 h1 h2 h3 eu_24 eu_30 eu_93)) (cwV 0 hts (gd_V wd_1034 wd_1035 wd_1036 wd_808 wd_1023) rfl rfl rfl hdX12_act ⟨Nat.le_of_ble_eq_true rfl, Nat.le_of_ble_eq_true rfl⟩) (preV_std (ci := 12) (q0 := 0) hPc hK hDc hNW rfl rfl) rfl rfl hl.1 rfl (lv_room (Nat.le_of_ble_eq_true rfl)) dX12_instruction_196 ⟨Nat.zero_le _, Nat.zero_le _⟩) hS (fun q _ h => hFc q h) hFc (fun u_196 t9 H1 locs ht9 hvm9 hw9 hB9 hz9 hk9 hS => ?_)
        have eu_196 : u_196 = fX12_act u_93.1 v_mrF u_93.2 := hw9
        obtain ⟨hP, hD⟩ := back_std (w1 := (wX12_act cI cB a_mo a_mem a_mks a_mr a_cnt a_wd a_one a_two a_mmade a_mrest a_old v_thrown v_mask v_key v_wait v_problem v_code r_70 v_cond v_masks x_88 v_mwanted u_196 0 0 v_oneB v_twoB v_mrF u_93.2)) (w2 := (wX12_instruction cI cB a_mo a_mem a_mks a_mr a_cnt a_wd a_one a_two a_mmade a_mrest a_old v_thrown v_mask v_key v_wait v_problem v_code r_70 v_cond v_masks x_88 v_mwanted u_196 0 0 v_oneB v_twoB v_mF v_mkF v_mrF v_cntF u_93.2)) (wr := [(a_mem, .inl (cI, 8192, .inl v_mF)), (a_mks, .inl (cI, 4, .inl v_mkF)), (a_cnt, .inl (cI, 3, .inl v_cntF))]) hP hD [0, 3, 5] [1, 2, 4] [3, 0, 1, 4, 2, 5] rfl rfl (by decide) (by decide) hk9 hFc hB9 ht9 (by decide) rfl
        clear hB9 hk9 hz9 hvm9 ht9 hFc hPc hDc
        generalize H1 = H at hP hS ⊢
        refine lv_aload_n hx hb dX12_instruction_199 rfl (lv_at hl 2 rfl) ?_
        refine va_get (D := D) (ci := 12) (v := .int u_196) (C := RX12) (T := TX12) (N := 26) hx hb hts in_X12 hown hK hP 0 rfl rfl 16 (by decide) q_0 (fun _ h9 => h9) rfl dX12_instruction_200 ?_
        refine lv_if_gt (tgt := 213) hx hb dX12_instruction_203 (by decide) (fun c_203 => ?_) (fun c_203 => ?_)
        · skip
          refine lv_aload_n hx hb dX12_instruction_213 rfl (lv_at hl 2 rfl) ?_
          refine va_get (D := D) (ci := 12) (v := .ref a_cnt) (C := RX12) (T := TX12) (N := 26) hx hb hts in_X12 hown hK hP 0 rfl rfl 14 (by decide) q_8 (fun _ h9 => h9) rfl dX12_instruction_214 ?_
          refine lv_iconst (v := 0) hx hb dX12_instruction_217 (by decide) ?_
          refine lv_dup2_11 hx hb dX12_instruction_218 rfl rfl ?_
          refine va_iald hx hb hK hP 4 0 rfl rfl (by unfold vp_in; decide) dX12_instruction_219 ?_
          refine lv_iconst (v := 1) hx hb dX12_instruction_220 (by decide) ?_
          refine lv_iadd hx hb dX12_instruction_221 ?_
          refine va_iast hx hb hK hP hD hS 4 0 rfl rfl (by unfold vp_in; decide) dX12_instruction_222 (fun H locs hP hD hS => ?_)
          obtain ⟨f_222, ef_222⟩ : ∃ z : Nat → Int32, z = upd v_cntF (0 : Int32).toNatClampNeg (((v_cntF (0 : Int32).toNatClampNeg) + 1)) := ⟨_, rfl⟩
          have hP : va_P D vwCl (wX12_instruction cI cB a_mo a_mem a_mks a_mr a_cnt a_wd a_one a_two a_mmade a_mrest a_old v_thrown v_mask v_key v_wait v_problem v_code r_70 v_cond v_masks x_88 v_mwanted u_196 0 0 v_oneB v_twoB v_mF v_mkF v_mrF (upd v_cntF (0 : Int32).toNatClampNeg (((v_cntF (0 : Int32).toNatClampNeg) + 1))) u_93.2) H := hP
          have hD : va_D A (wX12_instruction cI cB a_mo a_mem a_mks a_mr a_cnt a_wd a_one a_two a_mmade a_mrest a_old v_thrown v_mask v_key v_wait v_problem v_code r_70 v_cond v_masks x_88 v_mwanted u_196 0 0 v_oneB v_twoB v_mF v_mkF v_mrF (upd v_cntF (0 : Int32).toNatClampNeg (((v_cntF (0 : Int32).toNatClampNeg) + 1))) u_93.2) := hD
          rw [← ef_222] at hP hD
          refine lv_aload_n hx hb dX12_instruction_223 rfl (lv_at hl 2 rfl) ?_
          refine lv_bipush (v := 40) hx hb dX12_instruction_224 (by decide) ?_
          refine lv_bipush (v := 104) hx hb dX12_instruction_226 (by decide) ?_
          refine lv_aload_n hx hb dX12_instruction_228 rfl (lv_at hl 2 rfl) ?_
          refine va_get (D := D) (ci := 12) (v := .int u_196) (C := RX12) (T := TX12) (N := 26) hx hb hts in_X12 hown hK hP 0 rfl rfl 16 (by decide) q_0 (fun _ h9 => h9) rfl dX12_instruction_229 ?_
          refine lv_if_le (tgt := 242) hx hb dX12_instruction_232 (by decide) (fun c_232 => ?_) (fun c_232 => ?_)
          · skip
            exact absurd c_232 (p1_f h0 h1 h2 h3 eu_24 eu_30 eu_93 eu_196)
          · skip
            refine lv_aload_n hx hb dX12_instruction_235 rfl (lv_at hl 2 rfl) ?_
            refine va_get (D := D) (ci := 12) (v := .int u_196) (C := RX12) (T := TX12) (N := 26) hx hb hts in_X12 hown hK hP 0 rfl rfl 16 (by decide) q_0 (fun _ h9 => h9) rfl dX12_instruction_236 ?_
            refine lv_goto (tgt := 246) hx hb dX12_instruction_239 (by decide) ?_
            refine lv_aload_n hx hb dX12_instruction_246 rfl (lv_at hl 2 rfl) ?_
            refine va_get (D := D) (ci := 12) (v := .int r_70) (C := RX12) (T := TX12) (N := 26) hx hb hts in_X12 hown hK hP 0 rfl rfl 9 (by decide) q_5 (fun _ h9 => h9) rfl dX12_instruction_247 ?_
            have hPc : va_P D vwCl (wX12_interrupt cI cB a_mo a_mem a_mks a_mr a_cnt a_wd a_one a_two a_mmade a_mrest a_old v_thrown v_mask v_key v_wait v_problem v_code r_70 v_cond v_masks x_88 v_mwanted u_196 0 0 v_oneB v_twoB v_mF) H := hP.sub [0, 1] rfl
            have hDc : va_D A (wX12_interrupt cI cB a_mo a_mem a_mks a_mr a_cnt a_wd a_one a_two a_mmade a_mrest a_old v_thrown v_mask v_key v_wait v_problem v_code r_70 v_cond v_masks x_88 v_mwanted u_196 0 0 v_oneB v_twoB v_mF) := hD.sub [0, 1] (by decide) rfl
            have hFc := va_free (wc := (wX12_interrupt cI cB a_mo a_mem a_mks a_mr a_cnt a_wd a_one a_two a_mmade a_mrest a_old v_thrown v_mask v_key v_wait v_problem v_code r_70 v_cond v_masks x_88 v_mwanted u_196 0 0 v_oneB v_twoB v_mF)) hD hS hA [0, 1] rfl
            refine va_callv (va_runV (As := [.int 40, .int 104, .int u_196, .int r_70]) (rest := []) ⟨hx, hb, hml, hown, hts⟩ (kX12_interrupt l D cI cB a_mo a_mem a_mks a_mr a_cnt a_wd a_one a_two a_mmade a_mrest a_old H.size v_thrown v_mask v_key v_wait v_problem v_code r_70 v_cond v_masks x_88 v_mwanted u_196 0 0 v_oneB v_twoB v_mF 40 104 u_196 r_70 (by first | with_reducible assumption | decide | (unfold vp_in; decide)) (by first | with_reducible assumption | decide | (unfold vp_in; decide))) (cwV 4 hts (gd_V wd_1028 wd_1029 wd_1030 wd_808 wd_844) rfl rfl rfl hdX12_interrupt ⟨Nat.le_of_ble_eq_true rfl, Nat.le_of_ble_eq_true rfl⟩) (preV_std (ci := 12) (q0 := 0) hPc hK hDc hNW rfl rfl) rfl rfl hl.1 rfl (lv_room (Nat.le_of_ble_eq_true rfl)) dX12_instruction_250 ⟨Nat.zero_le _, Nat.zero_le _⟩) hS (fun q _ h => hFc q h) hFc (fun u_250 t9 H1 locs ht9 hvm9 hw9 hB9 hz9 hk9 hS => ?_)
            have eu_250 : u_250 = fX12_interrupt 40 104 u_196 r_70 v_mask v_key v_wait v_problem v_code r_70 v_cond v_masks x_88 v_mF := hw9
            obtain ⟨hP, hD⟩ := back_std (w1 := (wX12_interrupt cI cB a_mo a_mem a_mks a_mr a_cnt a_wd a_one a_two a_mmade a_mrest a_old v_thrown u_250.1 u_250.2.1 u_250.2.2.1 u_250.2.2.2.1 u_250.2.2.2.2.1 u_250.2.2.2.2.2.1 u_250.2.2.2.2.2.2.1 u_250.2.2.2.2.2.2.2.1 u_250.2.2.2.2.2.2.2.2.1 v_mwanted u_196 0 0 v_oneB v_twoB u_250.2.2.2.2.2.2.2.2.2)) (w2 := (wX12_instruction cI cB a_mo a_mem a_mks a_mr a_cnt a_wd a_one a_two a_mmade a_mrest a_old v_thrown u_250.1 u_250.2.1 u_250.2.2.1 u_250.2.2.2.1 u_250.2.2.2.2.1 u_250.2.2.2.2.2.1 u_250.2.2.2.2.2.2.1 u_250.2.2.2.2.2.2.2.1 u_250.2.2.2.2.2.2.2.2.1 v_mwanted u_196 0 0 v_oneB v_twoB u_250.2.2.2.2.2.2.2.2.2 v_mkF v_mrF f_222 u_93.2)) (wr := [(a_mks, .inl (cI, 4, .inl v_mkF)), (a_mr, .inl (cI, 16, .inl v_mrF)), (a_cnt, .inl (cI, 3, .inl f_222)), (a_wd, .inl (cI, 6, .inl u_93.2))]) hP hD [0, 1] [2, 3, 4, 5] [4, 5, 0, 1, 2, 3] rfl rfl (by decide) (by decide) hk9 hFc hB9 ht9 (by decide) rfl
            clear hB9 hk9 hz9 hvm9 ht9 hFc hPc hDc
            generalize H1 = H at hP hS ⊢
            refine lv_goto (tgt := 291) hx hb dX12_instruction_253 (by decide) ?_
            have hf9 : (u_250.1, u_250.2.1, u_250.2.2.1, u_250.2.2.2.1, u_250.2.2.2.2.1, u_250.2.2.2.2.2.1, u_250.2.2.2.2.2.2.1, u_250.2.2.2.2.2.2.2.1, u_250.2.2.2.2.2.2.2.2.1, u_196, 0, 0, u_250.2.2.2.2.2.2.2.2.2, f_222, u_93.2) = fX12_instruction v_mask v_key v_wait v_problem v_code v_length v_cond v_masks v_addr v_wrong v_after v_calls v_mF v_mkF v_mrF v_cntF v_wdF := by subst ef_222; subst ex_88; simp only [fX12_instruction, ← eu_24, ← eu_30, ← er_70, ← er_93, ← eu_93, ← eu_196, ← eu_250]
            exact W.vret hx hb hr (fun t9 ht9 hW9 => ⟨⟨(u_250.1, u_250.2.1, u_250.2.2.1, u_250.2.2.2.1, u_250.2.2.2.2.1, u_250.2.2.2.2.2.1, u_250.2.2.2.2.2.2.1, u_250.2.2.2.2.2.2.2.1, u_250.2.2.2.2.2.2.2.2.1, u_196, 0, 0, u_250.2.2.2.2.2.2.2.2.2, f_222, u_93.2), rfl, hf9, ⟨by rw [ht9]; exact hP, va_K.moved hW9.alike hK, hD⟩⟩, hS.F ht9⟩) hS.2.2 dX12_instruction_291
        · skip
          exact absurd (p1_e h0 h1 h2 h3 eu_24 eu_30 eu_93 eu_196) c_203
      · skip
        exact absurd c_107 (p1_d h0 h1 h2 h3 eu_24 eu_30 eu_93)
  · skip
    exact absurd (p1_a h0 h1 eu_24 eu_30) c_37
theorem hdX12_instruction : yX12_instruction.cls = RX12 ∧ yX12_instruction.cls ≠ "java/lang/invoke/MethodHandle" ∧ yX12_instruction.cls ≠ "java/lang/invoke/VarHandle" ∧ (parseMethodDescriptor yX12_instruction.desc).map (fun d => d.parameters.length) = some 0 := by decide +kernel
