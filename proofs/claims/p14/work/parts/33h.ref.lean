noncomputable def fX12_pair (x0 : Int32) (v_mrF : (Nat → Int32)) : Int64 :=
  let r_18 := fX12_plain (v_mrF ((x0 + 1) : Int32).toNatClampNeg)
  ((((v_mrF (x0 : Int32).toNatClampNeg) : Int32).toInt64 <<< ((32 : Int32).toInt64 &&& 63)) ||| r_18)
abbrev wX12_pair (cI cB : ClassId) (a_mo a_mem a_mks a_mr a_cnt a_wd a_one a_two a_mmade a_mrest a_old : Nat) (v_thrown : Int32) (v_mask : Int32) (v_key : Int32) (v_wait : Int32) (v_problem : Int32) (v_code : Int32) (v_length : Int32) (v_cond : Int32) (v_masks : Int32) (v_addr : Int32) (v_mwanted : Int32) (v_wrong : Int32) (v_after : Int32) (v_calls : Int32) (v_oneB : Int32) (v_twoB : Int32) (v_mrF : (Nat → Int32)) : va_W := [(a_mo, .inr (12, [.int v_thrown, .ref a_mem, .ref a_mks, .ref a_mr, .int v_mask, .int v_key, .int v_wait, .int v_problem, .int v_code, .int v_length, .int v_cond, .int v_masks, .int v_addr, .int v_mwanted, .ref a_cnt, .ref a_wd, .int v_wrong, .int v_after, .int v_calls, .ref a_one, .int v_oneB, .ref a_two, .int v_twoB, .ref a_mmade, .ref a_mrest, .ref a_old])), (a_mr, .inl (cI, 16, .inl v_mrF))]
abbrev rmX12_pair : Room := { frames := 1, cells := 0, slots := 0, locals := 20 }
abbrev qX12_pair (D : va_G) (cI cB : ClassId) (a_mo a_mem a_mks a_mr a_cnt a_wd a_one a_two a_mmade a_mrest a_old : Nat) (v_thrown : Int32) (v_mask : Int32) (v_key : Int32) (v_wait : Int32) (v_problem : Int32) (v_code : Int32) (v_length : Int32) (v_cond : Int32) (v_masks : Int32) (v_addr : Int32) (v_mwanted : Int32) (v_wrong : Int32) (v_after : Int32) (v_calls : Int32) (v_oneB : Int32) (v_twoB : Int32) (v_mrF : (Nat → Int32)) (x0 : Int32) : (Nat → Prop) → Array Value → State → Outcome → State → Prop := fun A9 => va_Ql (fun (r9 : Int64) (u9 : Unit) => r9 = fX12_pair x0 v_mrF) (fun u9 t9 => atW D (TYS cI cB) A9 (wX12_pair cI cB a_mo a_mem a_mks a_mr a_cnt a_wd a_one a_two a_mmade a_mrest a_old v_thrown v_mask v_key v_wait v_problem v_code v_length v_cond v_masks v_addr v_mwanted v_wrong v_after v_calls v_oneB v_twoB v_mrF) t9) A9
set_option maxHeartbeats 4000000 in
set_option maxRecDepth 100000 in
theorem kX12_pair (l : Launch) (D : va_G) (cI cB : ClassId) (a_mo a_mem a_mks a_mr a_cnt a_wd a_one a_two a_mmade a_mrest a_old : Nat) (sz : Nat) (v_thrown : Int32) (v_mask : Int32) (v_key : Int32) (v_wait : Int32) (v_problem : Int32) (v_code : Int32) (v_length : Int32) (v_cond : Int32) (v_masks : Int32) (v_addr : Int32) (v_mwanted : Int32) (v_wrong : Int32) (v_after : Int32) (v_calls : Int32) (v_oneB : Int32) (v_twoB : Int32) (v_mrF : (Nat → Int32)) (x0 : Int32) (hk : vp_in x0 15) : MetW l yX12_pair (WK yX12_pair cX12_pair 2 (some .long)) rmX12_pair D (TYS cI cB) (wX12_pair cI cB a_mo a_mem a_mks a_mr a_cnt a_wd a_one a_two a_mmade a_mrest a_old v_thrown v_mask v_key v_wait v_problem v_code v_length v_cond v_masks v_addr v_mwanted v_wrong v_after v_calls v_oneB v_twoB v_mrF) sz [.ref a_mo, .int x0] (qX12_pair D cI cB a_mo a_mem a_mks a_mr a_cnt a_wd a_one a_two a_mmade a_mrest a_old v_thrown v_mask v_key v_wait v_problem v_code v_length v_cond v_masks v_addr v_mwanted v_wrong v_after v_calls v_oneB v_twoB v_mrF x0) 0 0 := by
  refine met_std (by decide) rfl (Nat.le_of_ble_eq_true rfl) ?_
  intro p e s m below meth c A ls H hx hb hr hml hown hts hlocks hA hP hK hD hS hNW hl
  have hl : lv_has ls 2 [(0, .ref a_mo), (1, .int x0)] := hl
  have q_0 := hts _ (List.mem_cons_of_mem _ wd_779)
  refine lv_aload_n hx hb dX12_pair_0 rfl (lv_at hl 0 rfl) ?_
  refine va_get (D := D) (ci := 12) (v := .ref a_mr) (C := RX12) (T := TX12) (N := 26) hx hb hts in_X12 hown hK hP 0 rfl rfl 3 (by decide) q_0 (fun _ h9 => h9) rfl dX12_pair_1 ?_
  refine lv_iload_n hx hb dX12_pair_4 rfl (lv_at hl 1 rfl) ?_
  refine va_iald hx hb hK hP 1 0 rfl rfl (vin_w hk) dX12_pair_5 ?_
  refine lv_i2l hx hb dX12_pair_6 rfl ?_
  refine lv_bipush (v := 32) hx hb dX12_pair_7 (by decide) ?_
  refine lv_lshl hx hb dX12_pair_9 rfl ?_
  refine lv_aload_n hx hb dX12_pair_10 rfl (lv_at hl 0 rfl) ?_
  refine va_get (D := D) (ci := 12) (v := .ref a_mr) (C := RX12) (T := TX12) (N := 26) hx hb hts in_X12 hown hK hP 0 rfl rfl 3 (by decide) q_0 (fun _ h9 => h9) rfl dX12_pair_11 ?_
  refine lv_iload_n hx hb dX12_pair_14 rfl (lv_at hl 1 rfl) ?_
  refine lv_iconst (v := 1) hx hb dX12_pair_15 (by decide) ?_
  refine lv_iadd hx hb dX12_pair_16 ?_
  refine va_iald hx hb hK hP 1 0 rfl rfl (vin_s hk) dX12_pair_17 ?_
  have hPc : va_P D vwCl (wX12_plain cI cB  ) H := hP.sub [] rfl
  have hDc : va_D A (wX12_plain cI cB  ) := hD.sub [] (by decide) rfl
  have hFc := va_free (wc := (wX12_plain cI cB  )) hD hS hA [] rfl
  refine va_calll (va_runS (As := [.int ((v_mrF ((x0 + 1) : Int32).toNatClampNeg))]) (rest := [.long ((((v_mrF (x0 : Int32).toNatClampNeg) : Int32).toInt64 <<< ((32 : Int32).toInt64 &&& 63)))]) ⟨hx, hb, hml, hown, hts⟩ (kX12_plain l D cI cB  H.size  (v_mrF ((x0 + 1) : Int32).toNatClampNeg)) (va_cwS 1 hts (gd_S wd_865 wd_866 wd_807 wd_846) rfl rfl rfl hdX12_plain.2 ⟨Nat.le_of_ble_eq_true rfl, Nat.le_of_ble_eq_true rfl⟩) (preS_std hPc hK hDc hNW) rfl rfl hl.1 rfl (lv_room (Nat.le_of_ble_eq_true rfl)) dX12_pair_18 ⟨Nat.zero_le _, Nat.zero_le _⟩) hS (fun q _ h => hFc q h) hFc (fun r_18 u_18 t9 H1 locs ht9 hvm9 hw9 hB9 hz9 hk9 hS => ?_)
  have er_18 : r_18 = fX12_plain (v_mrF ((x0 + 1) : Int32).toNatClampNeg) := hw9
  obtain ⟨hP, hD⟩ := back_std (w1 := (wX12_plain cI cB  )) (w2 := (wX12_pair cI cB a_mo a_mem a_mks a_mr a_cnt a_wd a_one a_two a_mmade a_mrest a_old v_thrown v_mask v_key v_wait v_problem v_code v_length v_cond v_masks v_addr v_mwanted v_wrong v_after v_calls v_oneB v_twoB v_mrF)) (wr := [(a_mo, .inr (12, [.int v_thrown, .ref a_mem, .ref a_mks, .ref a_mr, .int v_mask, .int v_key, .int v_wait, .int v_problem, .int v_code, .int v_length, .int v_cond, .int v_masks, .int v_addr, .int v_mwanted, .ref a_cnt, .ref a_wd, .int v_wrong, .int v_after, .int v_calls, .ref a_one, .int v_oneB, .ref a_two, .int v_twoB, .ref a_mmade, .ref a_mrest, .ref a_old])), (a_mr, .inl (cI, 16, .inl v_mrF))]) hP hD [] [0, 1] [0, 1] rfl rfl (by decide) (by decide) hk9 hFc hB9 ht9 (by decide) rfl
  clear hB9 hk9 hz9 hvm9 ht9 hFc hPc hDc
  generalize H1 = H at hP hS ⊢
  refine lv_lor hx hb dX12_pair_21 ?_
  have hf9 : ((((v_mrF (x0 : Int32).toNatClampNeg) : Int32).toInt64 <<< ((32 : Int32).toInt64 &&& 63)) ||| r_18) = fX12_pair x0 v_mrF := by simp only [fX12_pair, ← er_18]
  exact W.lret hx hb hr (fun t9 ht9 hW9 => ⟨⟨((((v_mrF (x0 : Int32).toNatClampNeg) : Int32).toInt64 <<< ((32 : Int32).toInt64 &&& 63)) ||| r_18), (), rfl, hf9, ⟨by rw [ht9]; exact hP, va_K.moved hW9.alike hK, hD⟩⟩, hS.F ht9⟩) hS.2.2 dX12_pair_22
theorem hdX12_pair : yX12_pair.cls = RX12 ∧ yX12_pair.cls ≠ "java/lang/invoke/MethodHandle" ∧ yX12_pair.cls ≠ "java/lang/invoke/VarHandle" ∧ (parseMethodDescriptor yX12_pair.desc).map (fun d => d.parameters.length) = some 1 := by decide +kernel
noncomputable def fX12_product (x0 : Int32) (x1 : Int32) (v_wrong : Int32) (v_mrF : (Nat → Int32)) : (Int32 × (Nat → Int32)) :=
  let m_13 : Int32 := (if (x0 - x0 / 2 * 2) = 1 then (let u_10 := fX12_meet 6 v_wrong; u_10) else (v_wrong))
  if m_13 = 0 then (let x_32 := (((v_mrF ((x0 + 1) : Int32).toNatClampNeg) : Int32).toInt64 * (x1 : Int32).toInt64); let f_43 := upd v_mrF (x0 : Int32).toNatClampNeg (((x_32 >>> ((32 : Int32).toInt64 &&& 63)) : Int64).toInt32); let f_53 := upd f_43 ((x0 + 1) : Int32).toNatClampNeg ((x_32 : Int64).toInt32); (m_13, f_53)) else ((m_13, v_mrF))
abbrev wX12_product (cI cB : ClassId) (a_mo a_mem a_mks a_mr a_cnt a_wd a_one a_two a_mmade a_mrest a_old : Nat) (v_thrown : Int32) (v_mask : Int32) (v_key : Int32) (v_wait : Int32) (v_problem : Int32) (v_code : Int32) (v_length : Int32) (v_cond : Int32) (v_masks : Int32) (v_addr : Int32) (v_mwanted : Int32) (v_wrong : Int32) (v_after : Int32) (v_calls : Int32) (v_oneB : Int32) (v_twoB : Int32) (v_mrF : (Nat → Int32)) : va_W := [(a_mo, .inr (12, [.int v_thrown, .ref a_mem, .ref a_mks, .ref a_mr, .int v_mask, .int v_key, .int v_wait, .int v_problem, .int v_code, .int v_length, .int v_cond, .int v_masks, .int v_addr, .int v_mwanted, .ref a_cnt, .ref a_wd, .int v_wrong, .int v_after, .int v_calls, .ref a_one, .int v_oneB, .ref a_two, .int v_twoB, .ref a_mmade, .ref a_mrest, .ref a_old])), (a_mr, .inl (cI, 16, .inl v_mrF))]
abbrev rmX12_product : Room := { frames := 1, cells := 0, slots := 0, locals := 21 }
abbrev qX12_product (D : va_G) (cI cB : ClassId) (a_mo a_mem a_mks a_mr a_cnt a_wd a_one a_two a_mmade a_mrest a_old : Nat) (v_thrown : Int32) (v_mask : Int32) (v_key : Int32) (v_wait : Int32) (v_problem : Int32) (v_code : Int32) (v_length : Int32) (v_cond : Int32) (v_masks : Int32) (v_addr : Int32) (v_mwanted : Int32) (v_wrong : Int32) (v_after : Int32) (v_calls : Int32) (v_oneB : Int32) (v_twoB : Int32) (v_mrF : (Nat → Int32)) (x0 : Int32) (x1 : Int32) : (Nat → Prop) → Array Value → State → Outcome → State → Prop := fun A9 => va_Qv (fun (u9 : (Int32 × (Nat → Int32))) => u9 = fX12_product x0 x1 v_wrong v_mrF) (fun u9 t9 => atW D (TYS cI cB) A9 (wX12_product cI cB a_mo a_mem a_mks a_mr a_cnt a_wd a_one a_two a_mmade a_mrest a_old v_thrown v_mask v_key v_wait v_problem v_code v_length v_cond v_masks v_addr v_mwanted u9.1 v_after v_calls v_oneB v_twoB u9.2) t9) A9
set_option maxHeartbeats 4000000 in
set_option maxRecDepth 100000 in
theorem kX12_product (l : Launch) (D : va_G) (cI cB : ClassId) (a_mo a_mem a_mks a_mr a_cnt a_wd a_one a_two a_mmade a_mrest a_old : Nat) (sz : Nat) (v_thrown : Int32) (v_mask : Int32) (v_key : Int32) (v_wait : Int32) (v_problem : Int32) (v_code : Int32) (v_length : Int32) (v_cond : Int32) (v_masks : Int32) (v_addr : Int32) (v_mwanted : Int32) (v_wrong : Int32) (v_after : Int32) (v_calls : Int32) (v_oneB : Int32) (v_twoB : Int32) (v_mrF : (Nat → Int32)) (x0 : Int32) (x1 : Int32) (hk : vp_in x0 16) (hw : 0 ≤ v_wrong) : MetW l yX12_product (WK yX12_product cX12_product 5 none) rmX12_product D (TYS cI cB) (wX12_product cI cB a_mo a_mem a_mks a_mr a_cnt a_wd a_one a_two a_mmade a_mrest a_old v_thrown v_mask v_key v_wait v_problem v_code v_length v_cond v_masks v_addr v_mwanted v_wrong v_after v_calls v_oneB v_twoB v_mrF) sz [.ref a_mo, .int x0, .int x1] (qX12_product D cI cB a_mo a_mem a_mks a_mr a_cnt a_wd a_one a_two a_mmade a_mrest a_old v_thrown v_mask v_key v_wait v_problem v_code v_length v_cond v_masks v_addr v_mwanted v_wrong v_after v_calls v_oneB v_twoB v_mrF x0 x1) 0 0 := by
  refine met_std (by decide) rfl (Nat.le_of_ble_eq_true rfl) ?_
  intro p e s m below meth c A ls H hx hb hr hml hown hts hlocks hA hP hK hD hS hNW hl
  have hl : lv_has ls 5 [(0, .ref a_mo), (1, .int x0), (2, .int x1)] := hl
  have q_0 := hts _ (List.mem_cons_of_mem _ wd_836)
  have q_1 := hts _ (List.mem_cons_of_mem _ wd_779)
  refine lv_iload_n hx hb dX12_product_0 rfl (lv_at hl 1 rfl) ?_
  refine lv_iconst (v := 2) hx hb dX12_product_1 (by decide) ?_
  refine lv_irem hx hb dX12_product_2 (by decide) ?_
  refine lv_iconst (v := 1) hx hb dX12_product_3 (by decide) ?_
  have J_13 : ∀ (m_13 : Int32), m_13 = (if (x0 - x0 / 2 * 2) = 1 then (let u_10 := fX12_meet 6 v_wrong; u_10) else (v_wrong)) → ∀ (H : Heap) (locs : List Loc), va_P D vwCl (wX12_product cI cB a_mo a_mem a_mks a_mr a_cnt a_wd a_one a_two a_mmade a_mrest a_old v_thrown v_mask v_key v_wait v_problem v_code v_length v_cond v_masks v_addr v_mwanted m_13 v_after v_calls v_oneB v_twoB v_mrF) H → va_D A (wX12_product cI cB a_mo a_mem a_mks a_mr a_cnt a_wd a_one a_two a_mmade a_mrest a_old v_thrown v_mask v_key v_wait v_problem v_code v_length v_cond v_masks v_addr v_mwanted m_13 v_after v_calls v_oneB v_twoB v_mrF) → va_S A s.heap H locs → ∀ (ls : Array Slot), lv_has ls 5 [(0, .ref a_mo), (1, .int x0), (2, .int x1)] → W p l e rmX12_product s m ([.ref a_mo, .int x0, .int x1] : List Value).toArray below meth c H locs 0 0 (MQ below (qX12_product D cI cB a_mo a_mem a_mks a_mr a_cnt a_wd a_one a_two a_mmade a_mrest a_old v_thrown v_mask v_key v_wait v_problem v_code v_length v_cond v_masks v_addr v_mwanted v_wrong v_after v_calls v_oneB v_twoB v_mrF x0 x1 A) ([.ref a_mo, .int x0, .int x1] : List Value).toArray s 0 0 A) (F0 m 13 ls []) := by
    intro m_13 em_13 H locs hP hD hS ls hl
    try dsimp only at em_13
    refine lv_aload_n hx hb dX12_product_13 rfl (lv_at hl 0 rfl) ?_
    refine va_get (D := D) (ci := 12) (v := .int m_13) (C := RX12) (T := TX12) (N := 26) hx hb hts in_X12 hown hK hP 0 rfl rfl 16 (by decide) q_0 (fun _ h9 => h9) rfl dX12_product_14 ?_
    refine lv_if_ne (tgt := 54) hx hb dX12_product_17 (by decide) (fun c_17 => ?_) (fun c_17 => ?_)
    · skip
      have hf9 : (m_13, v_mrF) = fX12_product x0 x1 v_wrong v_mrF := by simp only [fX12_product, ← em_13]; (try simp only [if_neg c_17])
      exact W.vret hx hb hr (fun t9 ht9 hW9 => ⟨⟨(m_13, v_mrF), rfl, hf9, ⟨by rw [ht9]; exact hP, va_K.moved hW9.alike hK, hD⟩⟩, hS.F ht9⟩) hS.2.2 dX12_product_54
    · skip
      refine lv_aload_n hx hb dX12_product_20 rfl (lv_at hl 0 rfl) ?_
      refine va_get (D := D) (ci := 12) (v := .ref a_mr) (C := RX12) (T := TX12) (N := 26) hx hb hts in_X12 hown hK hP 0 rfl rfl 3 (by decide) q_1 (fun _ h9 => h9) rfl dX12_product_21 ?_
      refine lv_iload_n hx hb dX12_product_24 rfl (lv_at hl 1 rfl) ?_
      refine lv_iconst (v := 1) hx hb dX12_product_25 (by decide) ?_
      refine lv_iadd hx hb dX12_product_26 ?_
      refine va_iald hx hb hK hP 1 0 rfl rfl (vin_s (vin_e hk (odd_no hw em_13 (eq0_np c_17)))) dX12_product_27 ?_
      refine lv_i2l hx hb dX12_product_28 rfl ?_
      refine lv_iload_n hx hb dX12_product_29 rfl (lv_at hl 2 rfl) ?_
      refine lv_i2l hx hb dX12_product_30 rfl ?_
      refine lv_lmul hx hb dX12_product_31 ?_
      refine lv_topl (fun x_32 ex_32 => ?_)
      refine lv_lstore_n (lv' := [(3, .long x_32), (0, .ref a_mo), (1, .int x0), (2, .int x1)]) hx hb dX12_product_32 rfl hl (by decide) rfl (fun ls hl => ?_)
      refine lv_aload_n hx hb dX12_product_33 rfl (lv_at hl 1 rfl) ?_
      refine va_get (D := D) (ci := 12) (v := .ref a_mr) (C := RX12) (T := TX12) (N := 26) hx hb hts in_X12 hown hK hP 0 rfl rfl 3 (by decide) q_1 (fun _ h9 => h9) rfl dX12_product_34 ?_
      refine lv_iload_n hx hb dX12_product_37 rfl (lv_at hl 2 rfl) ?_
      refine lv_lload_n hx hb dX12_product_38 rfl (lv_at hl 0 rfl) ?_
      refine lv_bipush (v := 32) hx hb dX12_product_39 (by decide) ?_
      refine lv_lshr hx hb dX12_product_41 rfl ?_
      refine lv_l2i hx hb dX12_product_42 rfl ?_
      refine va_iast hx hb hK hP hD hS 1 0 rfl rfl (by first | with_reducible assumption | exact vin_of (b := 16) (by decide) (by with_reducible assumption) (by with_reducible assumption) | exact vin_of (b := 16) (by decide) (Int32.not_lt.mp (by with_reducible assumption)) (by with_reducible assumption) | exact vin_dn (by decide) (by with_reducible assumption) hI9) dX12_product_43 (fun H locs hP hD hS => ?_)
      obtain ⟨f_43, ef_43⟩ : ∃ z : Nat → Int32, z = upd v_mrF (x0 : Int32).toNatClampNeg (((x_32 >>> ((32 : Int32).toInt64 &&& 63)) : Int64).toInt32) := ⟨_, rfl⟩
      have hP : va_P D vwCl (wX12_product cI cB a_mo a_mem a_mks a_mr a_cnt a_wd a_one a_two a_mmade a_mrest a_old v_thrown v_mask v_key v_wait v_problem v_code v_length v_cond v_masks v_addr v_mwanted m_13 v_after v_calls v_oneB v_twoB (upd v_mrF (x0 : Int32).toNatClampNeg (((x_32 >>> ((32 : Int32).toInt64 &&& 63)) : Int64).toInt32))) H := hP
      have hD : va_D A (wX12_product cI cB a_mo a_mem a_mks a_mr a_cnt a_wd a_one a_two a_mmade a_mrest a_old v_thrown v_mask v_key v_wait v_problem v_code v_length v_cond v_masks v_addr v_mwanted m_13 v_after v_calls v_oneB v_twoB (upd v_mrF (x0 : Int32).toNatClampNeg (((x_32 >>> ((32 : Int32).toInt64 &&& 63)) : Int64).toInt32))) := hD
      rw [← ef_43] at hP hD
      refine lv_aload_n hx hb dX12_product_44 rfl (lv_at hl 1 rfl) ?_
      refine va_get (D := D) (ci := 12) (v := .ref a_mr) (C := RX12) (T := TX12) (N := 26) hx hb hts in_X12 hown hK hP 0 rfl rfl 3 (by decide) q_1 (fun _ h9 => h9) rfl dX12_product_45 ?_
      refine lv_iload_n hx hb dX12_product_48 rfl (lv_at hl 2 rfl) ?_
      refine lv_iconst (v := 1) hx hb dX12_product_49 (by decide) ?_
      refine lv_iadd hx hb dX12_product_50 ?_
      refine lv_lload_n hx hb dX12_product_51 rfl (lv_at hl 0 rfl) ?_
      refine lv_l2i hx hb dX12_product_52 rfl ?_
      refine va_iast hx hb hK hP hD hS 1 0 rfl rfl (vin_s (vin_e hk (odd_no hw em_13 (eq0_np c_17)))) dX12_product_53 (fun H locs hP hD hS => ?_)
      obtain ⟨f_53, ef_53⟩ : ∃ z : Nat → Int32, z = upd f_43 ((x0 + 1) : Int32).toNatClampNeg ((x_32 : Int64).toInt32) := ⟨_, rfl⟩
      have hP : va_P D vwCl (wX12_product cI cB a_mo a_mem a_mks a_mr a_cnt a_wd a_one a_two a_mmade a_mrest a_old v_thrown v_mask v_key v_wait v_problem v_code v_length v_cond v_masks v_addr v_mwanted m_13 v_after v_calls v_oneB v_twoB (upd f_43 ((x0 + 1) : Int32).toNatClampNeg ((x_32 : Int64).toInt32))) H := hP
      have hD : va_D A (wX12_product cI cB a_mo a_mem a_mks a_mr a_cnt a_wd a_one a_two a_mmade a_mrest a_old v_thrown v_mask v_key v_wait v_problem v_code v_length v_cond v_masks v_addr v_mwanted m_13 v_after v_calls v_oneB v_twoB (upd f_43 ((x0 + 1) : Int32).toNatClampNeg ((x_32 : Int64).toInt32))) := hD
      rw [← ef_53] at hP hD
      have hf9 : (m_13, f_53) = fX12_product x0 x1 v_wrong v_mrF := by subst ef_53; subst ef_43; subst ex_32; simp only [fX12_product, ← em_13]; (try simp only [if_pos c_17])
      exact W.vret hx hb hr (fun t9 ht9 hW9 => ⟨⟨(m_13, f_53), rfl, hf9, ⟨by rw [ht9]; exact hP, va_K.moved hW9.alike hK, hD⟩⟩, hS.F ht9⟩) hS.2.2 dX12_product_54
  refine lv_icmp_ne (tgt := 13) hx hb dX12_product_4 (by decide) (fun c_4 => ?_) (fun c_4 => ?_)
  · skip
    exact J_13 v_wrong (by (try simp only [if_neg c_4])) _ _ hP hD hS ls (lv_sub hl [0, 1, 2] rfl)
  · skip
    refine lv_aload_n hx hb dX12_product_7 rfl (lv_at hl 0 rfl) ?_
    refine lv_bipush (v := 6) hx hb dX12_product_8 (by decide) ?_
    have hPc : va_P D vwCl (wX12_meet cI cB a_mo a_mem a_mks a_mr a_cnt a_wd a_one a_two a_mmade a_mrest a_old v_thrown v_mask v_key v_wait v_problem v_code v_length v_cond v_masks v_addr v_mwanted v_wrong v_after v_calls v_oneB v_twoB) H := hP.sub [0] rfl
    have hDc : va_D A (wX12_meet cI cB a_mo a_mem a_mks a_mr a_cnt a_wd a_one a_two a_mmade a_mrest a_old v_thrown v_mask v_key v_wait v_problem v_code v_length v_cond v_masks v_addr v_mwanted v_wrong v_after v_calls v_oneB v_twoB) := hD.sub [0] (by decide) rfl
    have hFc := va_free (wc := (wX12_meet cI cB a_mo a_mem a_mks a_mr a_cnt a_wd a_one a_two a_mmade a_mrest a_old v_thrown v_mask v_key v_wait v_problem v_code v_length v_cond v_masks v_addr v_mwanted v_wrong v_after v_calls v_oneB v_twoB)) hD hS hA [0] rfl
    refine va_callv (va_runV (As := [.int 6]) (rest := []) ⟨hx, hb, hml, hown, hts⟩ (kX12_meet l D cI cB a_mo a_mem a_mks a_mr a_cnt a_wd a_one a_two a_mmade a_mrest a_old H.size v_thrown v_mask v_key v_wait v_problem v_code v_length v_cond v_masks v_addr v_mwanted v_wrong v_after v_calls v_oneB v_twoB 6) (cwV 1 hts (gd_V wd_838 wd_839 wd_840 wd_807 wd_835) rfl rfl rfl hdX12_meet ⟨Nat.le_of_ble_eq_true rfl, Nat.le_of_ble_eq_true rfl⟩) (preV_std (ci := 12) (q0 := 0) hPc hK hDc hNW rfl rfl) rfl rfl hl.1 rfl (lv_room (Nat.le_of_ble_eq_true rfl)) dX12_product_10 ⟨Nat.zero_le _, Nat.zero_le _⟩) hS (fun q _ h => hFc q h) hFc (fun u_10 t9 H1 locs ht9 hvm9 hw9 hB9 hz9 hk9 hS => ?_)
    have eu_10 : u_10 = fX12_meet 6 v_wrong := hw9
    obtain ⟨hP, hD⟩ := back_std (w1 := (wX12_meet cI cB a_mo a_mem a_mks a_mr a_cnt a_wd a_one a_two a_mmade a_mrest a_old v_thrown v_mask v_key v_wait v_problem v_code v_length v_cond v_masks v_addr v_mwanted u_10 v_after v_calls v_oneB v_twoB)) (w2 := (wX12_product cI cB a_mo a_mem a_mks a_mr a_cnt a_wd a_one a_two a_mmade a_mrest a_old v_thrown v_mask v_key v_wait v_problem v_code v_length v_cond v_masks v_addr v_mwanted u_10 v_after v_calls v_oneB v_twoB v_mrF)) (wr := [(a_mr, .inl (cI, 16, .inl v_mrF))]) hP hD [0] [1] [1, 0] rfl rfl (by decide) (by decide) hk9 hFc hB9 ht9 (by decide) rfl
    clear hB9 hk9 hz9 hvm9 ht9 hFc hPc hDc
    generalize H1 = H at hP hS ⊢
    exact J_13 u_10 (by (try simp only [← eu_10]); (try simp only [if_pos c_4])) _ _ hP hD hS ls (lv_sub hl [0, 1, 2] rfl)
theorem hdX12_product : yX12_product.cls = RX12 ∧ yX12_product.cls ≠ "java/lang/invoke/MethodHandle" ∧ yX12_product.cls ≠ "java/lang/invoke/VarHandle" ∧ (parseMethodDescriptor yX12_product.desc).map (fun d => d.parameters.length) = some 2 := by decide +kernel
noncomputable def fX12_quotient (x0 : Int32) (x1 : Int32) (v_wrong : Int32) (v_mrF : (Nat → Int32)) : (Int32 × (Nat → Int32)) :=
  let m_13 : Int32 := (if (x0 - x0 / 2 * 2) = 1 then (let u_10 := fX12_meet 6 v_wrong; u_10) else (v_wrong))
  if m_13 ≤ 0 then (let r_23 := fX12_pair x0 v_mrF; let m_45 : Int32 := (if (lg_cmp (r_23) ((-9223372036854775808))) = 0 then (if x1 = (-1) then (1) else (0)) else (0)); let m_64 : Int64 := (if x1 = 0 then (0) else (if m_45 = 0 then ((r_23 / (x1 : Int32).toInt64)) else (0))); if x1 = 0 then (let u_96 := fX12_meet 9 m_13; (u_96, v_mrF)) else (if m_45 = 0 then (if 0 < (lg_cmp (m_64) (2147483647)) then (let u_96 := fX12_meet 9 m_13; (u_96, v_mrF)) else (if 0 ≤ (lg_cmp (m_64) ((-2147483648))) then (let f_110 := upd v_mrF (x0 : Int32).toNatClampNeg (((r_23 - r_23 / (x1 : Int32).toInt64 * (x1 : Int32).toInt64) : Int64).toInt32); let f_121 := upd f_110 ((x0 + 1) : Int32).toNatClampNeg ((m_64 : Int64).toInt32); (m_13, f_121)) else (let u_96 := fX12_meet 9 m_13; (u_96, v_mrF)))) else (let u_96 := fX12_meet 9 m_13; (u_96, v_mrF)))) else ((m_13, v_mrF))
abbrev wX12_quotient (cI cB : ClassId) (a_mo a_mem a_mks a_mr a_cnt a_wd a_one a_two a_mmade a_mrest a_old : Nat) (v_thrown : Int32) (v_mask : Int32) (v_key : Int32) (v_wait : Int32) (v_problem : Int32) (v_code : Int32) (v_length : Int32) (v_cond : Int32) (v_masks : Int32) (v_addr : Int32) (v_mwanted : Int32) (v_wrong : Int32) (v_after : Int32) (v_calls : Int32) (v_oneB : Int32) (v_twoB : Int32) (v_mrF : (Nat → Int32)) : va_W := [(a_mo, .inr (12, [.int v_thrown, .ref a_mem, .ref a_mks, .ref a_mr, .int v_mask, .int v_key, .int v_wait, .int v_problem, .int v_code, .int v_length, .int v_cond, .int v_masks, .int v_addr, .int v_mwanted, .ref a_cnt, .ref a_wd, .int v_wrong, .int v_after, .int v_calls, .ref a_one, .int v_oneB, .ref a_two, .int v_twoB, .ref a_mmade, .ref a_mrest, .ref a_old])), (a_mr, .inl (cI, 16, .inl v_mrF))]
abbrev rmX12_quotient : Room := { frames := 2, cells := 0, slots := 0, locals := 41 }
abbrev qX12_quotient (D : va_G) (cI cB : ClassId) (a_mo a_mem a_mks a_mr a_cnt a_wd a_one a_two a_mmade a_mrest a_old : Nat) (v_thrown : Int32) (v_mask : Int32) (v_key : Int32) (v_wait : Int32) (v_problem : Int32) (v_code : Int32) (v_length : Int32) (v_cond : Int32) (v_masks : Int32) (v_addr : Int32) (v_mwanted : Int32) (v_wrong : Int32) (v_after : Int32) (v_calls : Int32) (v_oneB : Int32) (v_twoB : Int32) (v_mrF : (Nat → Int32)) (x0 : Int32) (x1 : Int32) : (Nat → Prop) → Array Value → State → Outcome → State → Prop := fun A9 => va_Qv (fun (u9 : (Int32 × (Nat → Int32))) => u9 = fX12_quotient x0 x1 v_wrong v_mrF) (fun u9 t9 => atW D (TYS cI cB) A9 (wX12_quotient cI cB a_mo a_mem a_mks a_mr a_cnt a_wd a_one a_two a_mmade a_mrest a_old v_thrown v_mask v_key v_wait v_problem v_code v_length v_cond v_masks v_addr v_mwanted u9.1 v_after v_calls v_oneB v_twoB u9.2) t9) A9
set_option maxHeartbeats 4000000 in
set_option maxRecDepth 100000 in
theorem kX12_quotient (l : Launch) (D : va_G) (cI cB : ClassId) (a_mo a_mem a_mks a_mr a_cnt a_wd a_one a_two a_mmade a_mrest a_old : Nat) (sz : Nat) (v_thrown : Int32) (v_mask : Int32) (v_key : Int32) (v_wait : Int32) (v_problem : Int32) (v_code : Int32) (v_length : Int32) (v_cond : Int32) (v_masks : Int32) (v_addr : Int32) (v_mwanted : Int32) (v_wrong : Int32) (v_after : Int32) (v_calls : Int32) (v_oneB : Int32) (v_twoB : Int32) (v_mrF : (Nat → Int32)) (x0 : Int32) (x1 : Int32) (hk : vp_in x0 16) (hw : 0 ≤ v_wrong) : MetW l yX12_quotient (WK yX12_quotient cX12_quotient 8 none) rmX12_quotient D (TYS cI cB) (wX12_quotient cI cB a_mo a_mem a_mks a_mr a_cnt a_wd a_one a_two a_mmade a_mrest a_old v_thrown v_mask v_key v_wait v_problem v_code v_length v_cond v_masks v_addr v_mwanted v_wrong v_after v_calls v_oneB v_twoB v_mrF) sz [.ref a_mo, .int x0, .int x1] (qX12_quotient D cI cB a_mo a_mem a_mks a_mr a_cnt a_wd a_one a_two a_mmade a_mrest a_old v_thrown v_mask v_key v_wait v_problem v_code v_length v_cond v_masks v_addr v_mwanted v_wrong v_after v_calls v_oneB v_twoB v_mrF x0 x1) 0 0 := by
  refine met_std (by decide) rfl (Nat.le_of_ble_eq_true rfl) ?_
  intro p e s m below meth c A ls H hx hb hr hml hown hts hlocks hA hP hK hD hS hNW hl
  have hl : lv_has ls 8 [(0, .ref a_mo), (1, .int x0), (2, .int x1)] := hl
  have q_0 := hts _ (List.mem_cons_of_mem _ wd_836)
  have q_1 := hts _ (List.mem_cons_of_mem _ wd_868)
  have q_2 := hts _ (List.mem_cons_of_mem _ wd_869)
  have q_3 := hts _ (List.mem_cons_of_mem _ wd_870)
  have q_4 := hts _ (List.mem_cons_of_mem _ wd_779)
  refine lv_iload_n hx hb dX12_quotient_0 rfl (lv_at hl 1 rfl) ?_
  refine lv_iconst (v := 2) hx hb dX12_quotient_1 (by decide) ?_
  refine lv_irem hx hb dX12_quotient_2 (by decide) ?_
  refine lv_iconst (v := 1) hx hb dX12_quotient_3 (by decide) ?_
  have J_13 : ∀ (m_13 : Int32), m_13 = (if (x0 - x0 / 2 * 2) = 1 then (let u_10 := fX12_meet 6 v_wrong; u_10) else (v_wrong)) → ∀ (H : Heap) (locs : List Loc), va_P D vwCl (wX12_quotient cI cB a_mo a_mem a_mks a_mr a_cnt a_wd a_one a_two a_mmade a_mrest a_old v_thrown v_mask v_key v_wait v_problem v_code v_length v_cond v_masks v_addr v_mwanted m_13 v_after v_calls v_oneB v_twoB v_mrF) H → va_D A (wX12_quotient cI cB a_mo a_mem a_mks a_mr a_cnt a_wd a_one a_two a_mmade a_mrest a_old v_thrown v_mask v_key v_wait v_problem v_code v_length v_cond v_masks v_addr v_mwanted m_13 v_after v_calls v_oneB v_twoB v_mrF) → va_S A s.heap H locs → ∀ (ls : Array Slot), lv_has ls 8 [(0, .ref a_mo), (1, .int x0), (2, .int x1)] → W p l e rmX12_quotient s m ([.ref a_mo, .int x0, .int x1] : List Value).toArray below meth c H locs 0 0 (MQ below (qX12_quotient D cI cB a_mo a_mem a_mks a_mr a_cnt a_wd a_one a_two a_mmade a_mrest a_old v_thrown v_mask v_key v_wait v_problem v_code v_length v_cond v_masks v_addr v_mwanted v_wrong v_after v_calls v_oneB v_twoB v_mrF x0 x1 A) ([.ref a_mo, .int x0, .int x1] : List Value).toArray s 0 0 A) (F0 m 13 ls []) := by
    intro m_13 em_13 H locs hP hD hS ls hl
    try dsimp only at em_13
    refine lv_aload_n hx hb dX12_quotient_13 rfl (lv_at hl 0 rfl) ?_
    refine va_get (D := D) (ci := 12) (v := .int m_13) (C := RX12) (T := TX12) (N := 26) hx hb hts in_X12 hown hK hP 0 rfl rfl 16 (by decide) q_0 (fun _ h9 => h9) rfl dX12_quotient_14 ?_
    refine lv_if_le (tgt := 21) hx hb dX12_quotient_17 (by decide) (fun c_17 => ?_) (fun c_17 => ?_)
    · skip
      refine lv_aload_n hx hb dX12_quotient_21 rfl (lv_at hl 0 rfl) ?_
      refine lv_iload_n hx hb dX12_quotient_22 rfl (lv_at hl 1 rfl) ?_
      have hPc : va_P D vwCl (wX12_pair cI cB a_mo a_mem a_mks a_mr a_cnt a_wd a_one a_two a_mmade a_mrest a_old v_thrown v_mask v_key v_wait v_problem v_code v_length v_cond v_masks v_addr v_mwanted m_13 v_after v_calls v_oneB v_twoB v_mrF) H := hP.sub [0, 1] rfl
      have hDc : va_D A (wX12_pair cI cB a_mo a_mem a_mks a_mr a_cnt a_wd a_one a_two a_mmade a_mrest a_old v_thrown v_mask v_key v_wait v_problem v_code v_length v_cond v_masks v_addr v_mwanted m_13 v_after v_calls v_oneB v_twoB v_mrF) := hD.sub [0, 1] (by decide) rfl
      have hFc := va_free (wc := (wX12_pair cI cB a_mo a_mem a_mks a_mr a_cnt a_wd a_one a_two a_mmade a_mrest a_old v_thrown v_mask v_key v_wait v_problem v_code v_length v_cond v_masks v_addr v_mwanted m_13 v_after v_calls v_oneB v_twoB v_mrF)) hD hS hA [0, 1] rfl
      refine va_calll (va_runV (As := [.int x0]) (rest := []) ⟨hx, hb, hml, hown, hts⟩ (kX12_pair l D cI cB a_mo a_mem a_mks a_mr a_cnt a_wd a_one a_two a_mmade a_mrest a_old H.size v_thrown v_mask v_key v_wait v_problem v_code v_length v_cond v_masks v_addr v_mwanted m_13 v_after v_calls v_oneB v_twoB v_mrF x0 (vin_e hk (odd_no hw em_13 (nle_pos c_17)))) (cwV 1 hts (gd_V wd_871 wd_872 wd_873 wd_807 wd_864) rfl rfl rfl hdX12_pair ⟨Nat.le_of_ble_eq_true rfl, Nat.le_of_ble_eq_true rfl⟩) (preV_std (ci := 12) (q0 := 0) hPc hK hDc hNW rfl rfl) rfl rfl hl.1 rfl (lv_room (Nat.le_of_ble_eq_true rfl)) dX12_quotient_23 ⟨Nat.zero_le _, Nat.zero_le _⟩) hS (fun q _ h => hFc q h) hFc (fun r_23 u_23 t9 H1 locs ht9 hvm9 hw9 hB9 hz9 hk9 hS => ?_)
      have er_23 : r_23 = fX12_pair x0 v_mrF := hw9
      obtain ⟨hP, hD⟩ := back_std (w1 := (wX12_pair cI cB a_mo a_mem a_mks a_mr a_cnt a_wd a_one a_two a_mmade a_mrest a_old v_thrown v_mask v_key v_wait v_problem v_code v_length v_cond v_masks v_addr v_mwanted m_13 v_after v_calls v_oneB v_twoB v_mrF)) (w2 := (wX12_quotient cI cB a_mo a_mem a_mks a_mr a_cnt a_wd a_one a_two a_mmade a_mrest a_old v_thrown v_mask v_key v_wait v_problem v_code v_length v_cond v_masks v_addr v_mwanted m_13 v_after v_calls v_oneB v_twoB v_mrF)) (wr := []) hP hD [0, 1] [] [0, 1] rfl rfl (by decide) (by decide) hk9 hFc hB9 ht9 (by decide) rfl
      clear hB9 hk9 hz9 hvm9 ht9 hFc hPc hDc
      generalize H1 = H at hP hS ⊢
      refine lv_lstore_n (lv' := [(3, .long r_23), (0, .ref a_mo), (1, .int x0), (2, .int x1)]) hx hb dX12_quotient_26 rfl hl (by decide) rfl (fun ls hl => ?_)
      refine lv_lload_n hx hb dX12_quotient_27 rfl (lv_at hl 0 rfl) ?_
      refine lv_ldc2 (v := (-9223372036854775808)) hx hb hown q_1 dX12_quotient_28 ?_
      refine W.lcmp hx hb dX12_quotient_31 ?_
      have J_45 : ∀ (m_45 : Int32), m_45 = (if (lg_cmp (r_23) ((-9223372036854775808))) = 0 then (if x1 = (-1) then (1) else (0)) else (0)) → ∀ (H : Heap) (locs : List Loc), va_P D vwCl (wX12_quotient cI cB a_mo a_mem a_mks a_mr a_cnt a_wd a_one a_two a_mmade a_mrest a_old v_thrown v_mask v_key v_wait v_problem v_code v_length v_cond v_masks v_addr v_mwanted m_13 v_after v_calls v_oneB v_twoB v_mrF) H → va_D A (wX12_quotient cI cB a_mo a_mem a_mks a_mr a_cnt a_wd a_one a_two a_mmade a_mrest a_old v_thrown v_mask v_key v_wait v_problem v_code v_length v_cond v_masks v_addr v_mwanted m_13 v_after v_calls v_oneB v_twoB v_mrF) → va_S A s.heap H locs → ∀ (ls : Array Slot), lv_has ls 8 [(0, .ref a_mo), (1, .int x0), (2, .int x1), (3, .long r_23)] → W p l e rmX12_quotient s m ([.ref a_mo, .int x0, .int x1] : List Value).toArray below meth c H locs 0 0 (MQ below (qX12_quotient D cI cB a_mo a_mem a_mks a_mr a_cnt a_wd a_one a_two a_mmade a_mrest a_old v_thrown v_mask v_key v_wait v_problem v_code v_length v_cond v_masks v_addr v_mwanted v_wrong v_after v_calls v_oneB v_twoB v_mrF x0 x1 A) ([.ref a_mo, .int x0, .int x1] : List Value).toArray s 0 0 A) (F0 m 45 ls [.int m_45]) := by
        intro m_45 em_45 H locs hP hD hS ls hl
        try dsimp only at em_45
        have zm_45_0 : m_45 = 0 ∨ m_45 = 1 := by rw [em_45]; (try dsimp only); (repeat' split) <;> first | exact Or.inl rfl | exact Or.inr rfl
        refine lv_istore (lv' := [(5, .int m_45), (0, .ref a_mo), (1, .int x0), (2, .int x1), (3, .long r_23)]) hx hb dX12_quotient_45 hl (by decide) rfl (fun ls hl => ?_)
        refine lv_iload_n hx hb dX12_quotient_47 rfl (lv_at hl 3 rfl) ?_
        have J_64 : ∀ (m_64 : Int64), m_64 = (if x1 = 0 then (0) else (if m_45 = 0 then ((r_23 / (x1 : Int32).toInt64)) else (0))) → ∀ (H : Heap) (locs : List Loc), va_P D vwCl (wX12_quotient cI cB a_mo a_mem a_mks a_mr a_cnt a_wd a_one a_two a_mmade a_mrest a_old v_thrown v_mask v_key v_wait v_problem v_code v_length v_cond v_masks v_addr v_mwanted m_13 v_after v_calls v_oneB v_twoB v_mrF) H → va_D A (wX12_quotient cI cB a_mo a_mem a_mks a_mr a_cnt a_wd a_one a_two a_mmade a_mrest a_old v_thrown v_mask v_key v_wait v_problem v_code v_length v_cond v_masks v_addr v_mwanted m_13 v_after v_calls v_oneB v_twoB v_mrF) → va_S A s.heap H locs → ∀ (ls : Array Slot), lv_has ls 8 [(0, .ref a_mo), (1, .int x0), (2, .int x1), (3, .long r_23), (5, .int m_45)] → W p l e rmX12_quotient s m ([.ref a_mo, .int x0, .int x1] : List Value).toArray below meth c H locs 0 0 (MQ below (qX12_quotient D cI cB a_mo a_mem a_mks a_mr a_cnt a_wd a_one a_two a_mmade a_mrest a_old v_thrown v_mask v_key v_wait v_problem v_code v_length v_cond v_masks v_addr v_mwanted v_wrong v_after v_calls v_oneB v_twoB v_mrF x0 x1 A) ([.ref a_mo, .int x0, .int x1] : List Value).toArray s 0 0 A) (F0 m 64 ls [.long m_64]) := by
          intro m_64 em_64 H locs hP hD hS ls hl
          try dsimp only at em_64
          refine lv_lstore (lv' := [(6, .long m_64), (0, .ref a_mo), (1, .int x0), (2, .int x1), (3, .long r_23), (5, .int m_45)]) hx hb dX12_quotient_64 hl (by decide) rfl (fun ls hl => ?_)
          refine lv_iload_n hx hb dX12_quotient_66 rfl (lv_at hl 3 rfl) ?_
          refine lv_if_eq (tgt := 93) hx hb dX12_quotient_67 (by decide) (fun c_67 => ?_) (fun c_67 => ?_)
          · skip
            refine lv_aload_n hx hb dX12_quotient_93 rfl (lv_at hl 1 rfl) ?_
            refine lv_bipush (v := 9) hx hb dX12_quotient_94 (by decide) ?_
            have hPc : va_P D vwCl (wX12_meet cI cB a_mo a_mem a_mks a_mr a_cnt a_wd a_one a_two a_mmade a_mrest a_old v_thrown v_mask v_key v_wait v_problem v_code v_length v_cond v_masks v_addr v_mwanted m_13 v_after v_calls v_oneB v_twoB) H := hP.sub [0] rfl
            have hDc : va_D A (wX12_meet cI cB a_mo a_mem a_mks a_mr a_cnt a_wd a_one a_two a_mmade a_mrest a_old v_thrown v_mask v_key v_wait v_problem v_code v_length v_cond v_masks v_addr v_mwanted m_13 v_after v_calls v_oneB v_twoB) := hD.sub [0] (by decide) rfl
            have hFc := va_free (wc := (wX12_meet cI cB a_mo a_mem a_mks a_mr a_cnt a_wd a_one a_two a_mmade a_mrest a_old v_thrown v_mask v_key v_wait v_problem v_code v_length v_cond v_masks v_addr v_mwanted m_13 v_after v_calls v_oneB v_twoB)) hD hS hA [0] rfl
            refine va_callv (va_runV (As := [.int 9]) (rest := []) ⟨hx, hb, hml, hown, hts⟩ (kX12_meet l D cI cB a_mo a_mem a_mks a_mr a_cnt a_wd a_one a_two a_mmade a_mrest a_old H.size v_thrown v_mask v_key v_wait v_problem v_code v_length v_cond v_masks v_addr v_mwanted m_13 v_after v_calls v_oneB v_twoB 9) (cwV 1 hts (gd_V wd_838 wd_839 wd_840 wd_807 wd_835) rfl rfl rfl hdX12_meet ⟨Nat.le_of_ble_eq_true rfl, Nat.le_of_ble_eq_true rfl⟩) (preV_std (ci := 12) (q0 := 0) hPc hK hDc hNW rfl rfl) rfl rfl hl.1 rfl (lv_room (Nat.le_of_ble_eq_true rfl)) dX12_quotient_96 ⟨Nat.zero_le _, Nat.zero_le _⟩) hS (fun q _ h => hFc q h) hFc (fun u_96 t9 H1 locs ht9 hvm9 hw9 hB9 hz9 hk9 hS => ?_)
            have eu_96 : u_96 = fX12_meet 9 m_13 := hw9
            obtain ⟨hP, hD⟩ := back_std (w1 := (wX12_meet cI cB a_mo a_mem a_mks a_mr a_cnt a_wd a_one a_two a_mmade a_mrest a_old v_thrown v_mask v_key v_wait v_problem v_code v_length v_cond v_masks v_addr v_mwanted u_96 v_after v_calls v_oneB v_twoB)) (w2 := (wX12_quotient cI cB a_mo a_mem a_mks a_mr a_cnt a_wd a_one a_two a_mmade a_mrest a_old v_thrown v_mask v_key v_wait v_problem v_code v_length v_cond v_masks v_addr v_mwanted u_96 v_after v_calls v_oneB v_twoB v_mrF)) (wr := [(a_mr, .inl (cI, 16, .inl v_mrF))]) hP hD [0] [1] [1, 0] rfl rfl (by decide) (by decide) hk9 hFc hB9 ht9 (by decide) rfl
            clear hB9 hk9 hz9 hvm9 ht9 hFc hPc hDc
            generalize H1 = H at hP hS ⊢
            have hf9 : (u_96, v_mrF) = fX12_quotient x0 x1 v_wrong v_mrF := by simp only [fX12_quotient, ← em_13, ← er_23, ← em_45, ← em_64, ← eu_96]; (try simp only [if_pos c_17, if_pos c_67])
            exact W.vret hx hb hr (fun t9 ht9 hW9 => ⟨⟨(u_96, v_mrF), rfl, hf9, ⟨by rw [ht9]; exact hP, va_K.moved hW9.alike hK, hD⟩⟩, hS.F ht9⟩) hS.2.2 dX12_quotient_99
          · skip
            refine lv_iload hx hb dX12_quotient_70 (lv_at hl 5 rfl) ?_
            refine lv_if_ne (tgt := 93) hx hb dX12_quotient_72 (by decide) (fun c_72 => ?_) (fun c_72 => ?_)
            · skip
              refine lv_aload_n hx hb dX12_quotient_93 rfl (lv_at hl 1 rfl) ?_
              refine lv_bipush (v := 9) hx hb dX12_quotient_94 (by decide) ?_
              have hPc : va_P D vwCl (wX12_meet cI cB a_mo a_mem a_mks a_mr a_cnt a_wd a_one a_two a_mmade a_mrest a_old v_thrown v_mask v_key v_wait v_problem v_code v_length v_cond v_masks v_addr v_mwanted m_13 v_after v_calls v_oneB v_twoB) H := hP.sub [0] rfl
              have hDc : va_D A (wX12_meet cI cB a_mo a_mem a_mks a_mr a_cnt a_wd a_one a_two a_mmade a_mrest a_old v_thrown v_mask v_key v_wait v_problem v_code v_length v_cond v_masks v_addr v_mwanted m_13 v_after v_calls v_oneB v_twoB) := hD.sub [0] (by decide) rfl
              have hFc := va_free (wc := (wX12_meet cI cB a_mo a_mem a_mks a_mr a_cnt a_wd a_one a_two a_mmade a_mrest a_old v_thrown v_mask v_key v_wait v_problem v_code v_length v_cond v_masks v_addr v_mwanted m_13 v_after v_calls v_oneB v_twoB)) hD hS hA [0] rfl
              refine va_callv (va_runV (As := [.int 9]) (rest := []) ⟨hx, hb, hml, hown, hts⟩ (kX12_meet l D cI cB a_mo a_mem a_mks a_mr a_cnt a_wd a_one a_two a_mmade a_mrest a_old H.size v_thrown v_mask v_key v_wait v_problem v_code v_length v_cond v_masks v_addr v_mwanted m_13 v_after v_calls v_oneB v_twoB 9) (cwV 1 hts (gd_V wd_838 wd_839 wd_840 wd_807 wd_835) rfl rfl rfl hdX12_meet ⟨Nat.le_of_ble_eq_true rfl, Nat.le_of_ble_eq_true rfl⟩) (preV_std (ci := 12) (q0 := 0) hPc hK hDc hNW rfl rfl) rfl rfl hl.1 rfl (lv_room (Nat.le_of_ble_eq_true rfl)) dX12_quotient_96 ⟨Nat.zero_le _, Nat.zero_le _⟩) hS (fun q _ h => hFc q h) hFc (fun u_96 t9 H1 locs ht9 hvm9 hw9 hB9 hz9 hk9 hS => ?_)
              have eu_96 : u_96 = fX12_meet 9 m_13 := hw9
              obtain ⟨hP, hD⟩ := back_std (w1 := (wX12_meet cI cB a_mo a_mem a_mks a_mr a_cnt a_wd a_one a_two a_mmade a_mrest a_old v_thrown v_mask v_key v_wait v_problem v_code v_length v_cond v_masks v_addr v_mwanted u_96 v_after v_calls v_oneB v_twoB)) (w2 := (wX12_quotient cI cB a_mo a_mem a_mks a_mr a_cnt a_wd a_one a_two a_mmade a_mrest a_old v_thrown v_mask v_key v_wait v_problem v_code v_length v_cond v_masks v_addr v_mwanted u_96 v_after v_calls v_oneB v_twoB v_mrF)) (wr := [(a_mr, .inl (cI, 16, .inl v_mrF))]) hP hD [0] [1] [1, 0] rfl rfl (by decide) (by decide) hk9 hFc hB9 ht9 (by decide) rfl
              clear hB9 hk9 hz9 hvm9 ht9 hFc hPc hDc
              generalize H1 = H at hP hS ⊢
              have hf9 : (u_96, v_mrF) = fX12_quotient x0 x1 v_wrong v_mrF := by simp only [fX12_quotient, ← em_13, ← er_23, ← em_45, ← em_64, ← eu_96]; (try simp only [if_pos c_17, if_neg c_67, if_neg c_72])
              exact W.vret hx hb hr (fun t9 ht9 hW9 => ⟨⟨(u_96, v_mrF), rfl, hf9, ⟨by rw [ht9]; exact hP, va_K.moved hW9.alike hK, hD⟩⟩, hS.F ht9⟩) hS.2.2 dX12_quotient_99
            · skip
              refine lv_lload hx hb dX12_quotient_75 (lv_at hl 0 rfl) ?_
              refine lv_ldc2 (v := 2147483647) hx hb hown q_2 dX12_quotient_77 ?_
              refine W.lcmp hx hb dX12_quotient_80 ?_
              refine lv_if_gt (tgt := 93) hx hb dX12_quotient_81 (by decide) (fun c_81 => ?_) (fun c_81 => ?_)
              · skip
                refine lv_aload_n hx hb dX12_quotient_93 rfl (lv_at hl 1 rfl) ?_
                refine lv_bipush (v := 9) hx hb dX12_quotient_94 (by decide) ?_
                have hPc : va_P D vwCl (wX12_meet cI cB a_mo a_mem a_mks a_mr a_cnt a_wd a_one a_two a_mmade a_mrest a_old v_thrown v_mask v_key v_wait v_problem v_code v_length v_cond v_masks v_addr v_mwanted m_13 v_after v_calls v_oneB v_twoB) H := hP.sub [0] rfl
                have hDc : va_D A (wX12_meet cI cB a_mo a_mem a_mks a_mr a_cnt a_wd a_one a_two a_mmade a_mrest a_old v_thrown v_mask v_key v_wait v_problem v_code v_length v_cond v_masks v_addr v_mwanted m_13 v_after v_calls v_oneB v_twoB) := hD.sub [0] (by decide) rfl
                have hFc := va_free (wc := (wX12_meet cI cB a_mo a_mem a_mks a_mr a_cnt a_wd a_one a_two a_mmade a_mrest a_old v_thrown v_mask v_key v_wait v_problem v_code v_length v_cond v_masks v_addr v_mwanted m_13 v_after v_calls v_oneB v_twoB)) hD hS hA [0] rfl
                refine va_callv (va_runV (As := [.int 9]) (rest := []) ⟨hx, hb, hml, hown, hts⟩ (kX12_meet l D cI cB a_mo a_mem a_mks a_mr a_cnt a_wd a_one a_two a_mmade a_mrest a_old H.size v_thrown v_mask v_key v_wait v_problem v_code v_length v_cond v_masks v_addr v_mwanted m_13 v_after v_calls v_oneB v_twoB 9) (cwV 1 hts (gd_V wd_838 wd_839 wd_840 wd_807 wd_835) rfl rfl rfl hdX12_meet ⟨Nat.le_of_ble_eq_true rfl, Nat.le_of_ble_eq_true rfl⟩) (preV_std (ci := 12) (q0 := 0) hPc hK hDc hNW rfl rfl) rfl rfl hl.1 rfl (lv_room (Nat.le_of_ble_eq_true rfl)) dX12_quotient_96 ⟨Nat.zero_le _, Nat.zero_le _⟩) hS (fun q _ h => hFc q h) hFc (fun u_96 t9 H1 locs ht9 hvm9 hw9 hB9 hz9 hk9 hS => ?_)
                have eu_96 : u_96 = fX12_meet 9 m_13 := hw9
                obtain ⟨hP, hD⟩ := back_std (w1 := (wX12_meet cI cB a_mo a_mem a_mks a_mr a_cnt a_wd a_one a_two a_mmade a_mrest a_old v_thrown v_mask v_key v_wait v_problem v_code v_length v_cond v_masks v_addr v_mwanted u_96 v_after v_calls v_oneB v_twoB)) (w2 := (wX12_quotient cI cB a_mo a_mem a_mks a_mr a_cnt a_wd a_one a_two a_mmade a_mrest a_old v_thrown v_mask v_key v_wait v_problem v_code v_length v_cond v_masks v_addr v_mwanted u_96 v_after v_calls v_oneB v_twoB v_mrF)) (wr := [(a_mr, .inl (cI, 16, .inl v_mrF))]) hP hD [0] [1] [1, 0] rfl rfl (by decide) (by decide) hk9 hFc hB9 ht9 (by decide) rfl
                clear hB9 hk9 hz9 hvm9 ht9 hFc hPc hDc
                generalize H1 = H at hP hS ⊢
                have hf9 : (u_96, v_mrF) = fX12_quotient x0 x1 v_wrong v_mrF := by simp only [fX12_quotient, ← em_13, ← er_23, ← em_45, ← em_64, ← eu_96]; (try simp only [if_pos c_17, if_neg c_67, if_pos c_72, if_pos c_81])
                exact W.vret hx hb hr (fun t9 ht9 hW9 => ⟨⟨(u_96, v_mrF), rfl, hf9, ⟨by rw [ht9]; exact hP, va_K.moved hW9.alike hK, hD⟩⟩, hS.F ht9⟩) hS.2.2 dX12_quotient_99
              · skip
                refine lv_lload hx hb dX12_quotient_84 (lv_at hl 0 rfl) ?_
                refine lv_ldc2 (v := (-2147483648)) hx hb hown q_3 dX12_quotient_86 ?_
                refine W.lcmp hx hb dX12_quotient_89 ?_
                refine lv_if_ge (tgt := 100) hx hb dX12_quotient_90 (by decide) (fun c_90 => ?_) (fun c_90 => ?_)
                · skip
                  refine lv_aload_n hx hb dX12_quotient_100 rfl (lv_at hl 1 rfl) ?_
                  refine va_get (D := D) (ci := 12) (v := .ref a_mr) (C := RX12) (T := TX12) (N := 26) hx hb hts in_X12 hown hK hP 0 rfl rfl 3 (by decide) q_4 (fun _ h9 => h9) rfl dX12_quotient_101 ?_
                  refine lv_iload_n hx hb dX12_quotient_104 rfl (lv_at hl 2 rfl) ?_
                  refine lv_lload_n hx hb dX12_quotient_105 rfl (lv_at hl 4 rfl) ?_
                  refine lv_iload_n hx hb dX12_quotient_106 rfl (lv_at hl 3 rfl) ?_
                  refine lv_i2l hx hb dX12_quotient_107 rfl ?_
                  refine lv_lrem hx hb dX12_quotient_108 (ne64 c_67) ?_
                  refine lv_l2i hx hb dX12_quotient_109 rfl ?_
                  refine va_iast hx hb hK hP hD hS 1 0 rfl rfl (by first | with_reducible assumption | exact vin_of (b := 16) (by decide) (by with_reducible assumption) (by with_reducible assumption) | exact vin_of (b := 16) (by decide) (Int32.not_lt.mp (by with_reducible assumption)) (by with_reducible assumption) | exact vin_dn (by decide) (by with_reducible assumption) hI9) dX12_quotient_110 (fun H locs hP hD hS => ?_)
                  obtain ⟨f_110, ef_110⟩ : ∃ z : Nat → Int32, z = upd v_mrF (x0 : Int32).toNatClampNeg (((r_23 - r_23 / (x1 : Int32).toInt64 * (x1 : Int32).toInt64) : Int64).toInt32) := ⟨_, rfl⟩
                  have hP : va_P D vwCl (wX12_quotient cI cB a_mo a_mem a_mks a_mr a_cnt a_wd a_one a_two a_mmade a_mrest a_old v_thrown v_mask v_key v_wait v_problem v_code v_length v_cond v_masks v_addr v_mwanted m_13 v_after v_calls v_oneB v_twoB (upd v_mrF (x0 : Int32).toNatClampNeg (((r_23 - r_23 / (x1 : Int32).toInt64 * (x1 : Int32).toInt64) : Int64).toInt32))) H := hP
                  have hD : va_D A (wX12_quotient cI cB a_mo a_mem a_mks a_mr a_cnt a_wd a_one a_two a_mmade a_mrest a_old v_thrown v_mask v_key v_wait v_problem v_code v_length v_cond v_masks v_addr v_mwanted m_13 v_after v_calls v_oneB v_twoB (upd v_mrF (x0 : Int32).toNatClampNeg (((r_23 - r_23 / (x1 : Int32).toInt64 * (x1 : Int32).toInt64) : Int64).toInt32))) := hD
                  rw [← ef_110] at hP hD
                  refine lv_aload_n hx hb dX12_quotient_111 rfl (lv_at hl 1 rfl) ?_
                  refine va_get (D := D) (ci := 12) (v := .ref a_mr) (C := RX12) (T := TX12) (N := 26) hx hb hts in_X12 hown hK hP 0 rfl rfl 3 (by decide) q_4 (fun _ h9 => h9) rfl dX12_quotient_112 ?_
                  refine lv_iload_n hx hb dX12_quotient_115 rfl (lv_at hl 2 rfl) ?_
                  refine lv_iconst (v := 1) hx hb dX12_quotient_116 (by decide) ?_
                  refine lv_iadd hx hb dX12_quotient_117 ?_
                  refine lv_lload hx hb dX12_quotient_118 (lv_at hl 0 rfl) ?_
                  refine lv_l2i hx hb dX12_quotient_120 rfl ?_
                  refine va_iast hx hb hK hP hD hS 1 0 rfl rfl (vin_s (vin_e hk (odd_no hw em_13 (nle_pos c_17)))) dX12_quotient_121 (fun H locs hP hD hS => ?_)
                  obtain ⟨f_121, ef_121⟩ : ∃ z : Nat → Int32, z = upd f_110 ((x0 + 1) : Int32).toNatClampNeg ((m_64 : Int64).toInt32) := ⟨_, rfl⟩
                  have hP : va_P D vwCl (wX12_quotient cI cB a_mo a_mem a_mks a_mr a_cnt a_wd a_one a_two a_mmade a_mrest a_old v_thrown v_mask v_key v_wait v_problem v_code v_length v_cond v_masks v_addr v_mwanted m_13 v_after v_calls v_oneB v_twoB (upd f_110 ((x0 + 1) : Int32).toNatClampNeg ((m_64 : Int64).toInt32))) H := hP
                  have hD : va_D A (wX12_quotient cI cB a_mo a_mem a_mks a_mr a_cnt a_wd a_one a_two a_mmade a_mrest a_old v_thrown v_mask v_key v_wait v_problem v_code v_length v_cond v_masks v_addr v_mwanted m_13 v_after v_calls v_oneB v_twoB (upd f_110 ((x0 + 1) : Int32).toNatClampNeg ((m_64 : Int64).toInt32))) := hD
                  rw [← ef_121] at hP hD
                  have hf9 : (m_13, f_121) = fX12_quotient x0 x1 v_wrong v_mrF := by subst ef_121; subst ef_110; simp only [fX12_quotient, ← em_13, ← er_23, ← em_45, ← em_64]; (try simp only [if_pos c_17, if_neg c_67, if_pos c_72, if_neg c_81, if_pos c_90])
                  exact W.vret hx hb hr (fun t9 ht9 hW9 => ⟨⟨(m_13, f_121), rfl, hf9, ⟨by rw [ht9]; exact hP, va_K.moved hW9.alike hK, hD⟩⟩, hS.F ht9⟩) hS.2.2 dX12_quotient_122
                · skip
                  refine lv_aload_n hx hb dX12_quotient_93 rfl (lv_at hl 1 rfl) ?_
                  refine lv_bipush (v := 9) hx hb dX12_quotient_94 (by decide) ?_
                  have hPc : va_P D vwCl (wX12_meet cI cB a_mo a_mem a_mks a_mr a_cnt a_wd a_one a_two a_mmade a_mrest a_old v_thrown v_mask v_key v_wait v_problem v_code v_length v_cond v_masks v_addr v_mwanted m_13 v_after v_calls v_oneB v_twoB) H := hP.sub [0] rfl
                  have hDc : va_D A (wX12_meet cI cB a_mo a_mem a_mks a_mr a_cnt a_wd a_one a_two a_mmade a_mrest a_old v_thrown v_mask v_key v_wait v_problem v_code v_length v_cond v_masks v_addr v_mwanted m_13 v_after v_calls v_oneB v_twoB) := hD.sub [0] (by decide) rfl
                  have hFc := va_free (wc := (wX12_meet cI cB a_mo a_mem a_mks a_mr a_cnt a_wd a_one a_two a_mmade a_mrest a_old v_thrown v_mask v_key v_wait v_problem v_code v_length v_cond v_masks v_addr v_mwanted m_13 v_after v_calls v_oneB v_twoB)) hD hS hA [0] rfl
                  refine va_callv (va_runV (As := [.int 9]) (rest := []) ⟨hx, hb, hml, hown, hts⟩ (kX12_meet l D cI cB a_mo a_mem a_mks a_mr a_cnt a_wd a_one a_two a_mmade a_mrest a_old H.size v_thrown v_mask v_key v_wait v_problem v_code v_length v_cond v_masks v_addr v_mwanted m_13 v_after v_calls v_oneB v_twoB 9) (cwV 1 hts (gd_V wd_838 wd_839 wd_840 wd_807 wd_835) rfl rfl rfl hdX12_meet ⟨Nat.le_of_ble_eq_true rfl, Nat.le_of_ble_eq_true rfl⟩) (preV_std (ci := 12) (q0 := 0) hPc hK hDc hNW rfl rfl) rfl rfl hl.1 rfl (lv_room (Nat.le_of_ble_eq_true rfl)) dX12_quotient_96 ⟨Nat.zero_le _, Nat.zero_le _⟩) hS (fun q _ h => hFc q h) hFc (fun u_96 t9 H1 locs ht9 hvm9 hw9 hB9 hz9 hk9 hS => ?_)
                  have eu_96 : u_96 = fX12_meet 9 m_13 := hw9
                  obtain ⟨hP, hD⟩ := back_std (w1 := (wX12_meet cI cB a_mo a_mem a_mks a_mr a_cnt a_wd a_one a_two a_mmade a_mrest a_old v_thrown v_mask v_key v_wait v_problem v_code v_length v_cond v_masks v_addr v_mwanted u_96 v_after v_calls v_oneB v_twoB)) (w2 := (wX12_quotient cI cB a_mo a_mem a_mks a_mr a_cnt a_wd a_one a_two a_mmade a_mrest a_old v_thrown v_mask v_key v_wait v_problem v_code v_length v_cond v_masks v_addr v_mwanted u_96 v_after v_calls v_oneB v_twoB v_mrF)) (wr := [(a_mr, .inl (cI, 16, .inl v_mrF))]) hP hD [0] [1] [1, 0] rfl rfl (by decide) (by decide) hk9 hFc hB9 ht9 (by decide) rfl
                  clear hB9 hk9 hz9 hvm9 ht9 hFc hPc hDc
                  generalize H1 = H at hP hS ⊢
                  have hf9 : (u_96, v_mrF) = fX12_quotient x0 x1 v_wrong v_mrF := by simp only [fX12_quotient, ← em_13, ← er_23, ← em_45, ← em_64, ← eu_96]; (try simp only [if_pos c_17, if_neg c_67, if_pos c_72, if_neg c_81, if_neg c_90])
                  exact W.vret hx hb hr (fun t9 ht9 hW9 => ⟨⟨(u_96, v_mrF), rfl, hf9, ⟨by rw [ht9]; exact hP, va_K.moved hW9.alike hK, hD⟩⟩, hS.F ht9⟩) hS.2.2 dX12_quotient_99
        refine lv_if_eq (tgt := 56) hx hb dX12_quotient_48 (by decide) (fun c_48 => ?_) (fun c_48 => ?_)
        · skip
          refine lv_lconst (v := 0) hx hb dX12_quotient_56 (by decide) ?_
          refine lv_goto (tgt := 64) hx hb dX12_quotient_57 (by decide) ?_
          exact J_64 0 (by (try simp only [if_pos c_48])) _ _ hP hD hS ls (lv_sub hl [1, 2, 3, 4, 0] rfl)
        · skip
          refine lv_iload hx hb dX12_quotient_51 (lv_at hl 0 rfl) ?_
          refine lv_if_eq (tgt := 60) hx hb dX12_quotient_53 (by decide) (fun c_53 => ?_) (fun c_53 => ?_)
          · skip
            refine lv_lload_n hx hb dX12_quotient_60 rfl (lv_at hl 4 rfl) ?_
            refine lv_iload_n hx hb dX12_quotient_61 rfl (lv_at hl 3 rfl) ?_
            refine lv_i2l hx hb dX12_quotient_62 rfl ?_
            refine lv_ldiv hx hb dX12_quotient_63 (ne64 c_48) ?_
            exact J_64 (r_23 / (x1 : Int32).toInt64) (by (try simp only [if_neg c_48, if_pos c_53])) _ _ hP hD hS ls (lv_sub hl [1, 2, 3, 4, 0] rfl)
          · skip
            refine lv_lconst (v := 0) hx hb dX12_quotient_56 (by decide) ?_
            refine lv_goto (tgt := 64) hx hb dX12_quotient_57 (by decide) ?_
            exact J_64 0 (by (try simp only [if_neg c_48, if_neg c_53])) _ _ hP hD hS ls (lv_sub hl [1, 2, 3, 4, 0] rfl)
      refine lv_if_ne (tgt := 44) hx hb dX12_quotient_32 (by decide) (fun c_32 => ?_) (fun c_32 => ?_)
      · skip
        refine lv_iconst (v := 0) hx hb dX12_quotient_44 (by decide) ?_
        exact J_45 0 (by (try simp only [if_neg c_32])) _ _ hP hD hS ls (lv_sub hl [1, 2, 3, 0] rfl)
      · skip
        refine lv_iload_n hx hb dX12_quotient_35 rfl (lv_at hl 3 rfl) ?_
        refine lv_iconst (v := (-1)) hx hb dX12_quotient_36 (by decide) ?_
        refine lv_icmp_ne (tgt := 44) hx hb dX12_quotient_37 (by decide) (fun c_37 => ?_) (fun c_37 => ?_)
        · skip
          refine lv_iconst (v := 0) hx hb dX12_quotient_44 (by decide) ?_
          exact J_45 0 (by (try simp only [if_pos c_32, if_neg c_37])) _ _ hP hD hS ls (lv_sub hl [1, 2, 3, 0] rfl)
        · skip
          refine lv_iconst (v := 1) hx hb dX12_quotient_40 (by decide) ?_
          refine lv_goto (tgt := 45) hx hb dX12_quotient_41 (by decide) ?_
          exact J_45 1 (by (try simp only [if_pos c_32, if_pos c_37])) _ _ hP hD hS ls (lv_sub hl [1, 2, 3, 0] rfl)
    · skip
      have hf9 : (m_13, v_mrF) = fX12_quotient x0 x1 v_wrong v_mrF := by simp only [fX12_quotient, ← em_13]; (try simp only [if_neg c_17])
      exact W.vret hx hb hr (fun t9 ht9 hW9 => ⟨⟨(m_13, v_mrF), rfl, hf9, ⟨by rw [ht9]; exact hP, va_K.moved hW9.alike hK, hD⟩⟩, hS.F ht9⟩) hS.2.2 dX12_quotient_20
  refine lv_icmp_ne (tgt := 13) hx hb dX12_quotient_4 (by decide) (fun c_4 => ?_) (fun c_4 => ?_)
  · skip
    exact J_13 v_wrong (by (try simp only [if_neg c_4])) _ _ hP hD hS ls (lv_sub hl [0, 1, 2] rfl)
  · skip
    refine lv_aload_n hx hb dX12_quotient_7 rfl (lv_at hl 0 rfl) ?_
    refine lv_bipush (v := 6) hx hb dX12_quotient_8 (by decide) ?_
    have hPc : va_P D vwCl (wX12_meet cI cB a_mo a_mem a_mks a_mr a_cnt a_wd a_one a_two a_mmade a_mrest a_old v_thrown v_mask v_key v_wait v_problem v_code v_length v_cond v_masks v_addr v_mwanted v_wrong v_after v_calls v_oneB v_twoB) H := hP.sub [0] rfl
    have hDc : va_D A (wX12_meet cI cB a_mo a_mem a_mks a_mr a_cnt a_wd a_one a_two a_mmade a_mrest a_old v_thrown v_mask v_key v_wait v_problem v_code v_length v_cond v_masks v_addr v_mwanted v_wrong v_after v_calls v_oneB v_twoB) := hD.sub [0] (by decide) rfl
    have hFc := va_free (wc := (wX12_meet cI cB a_mo a_mem a_mks a_mr a_cnt a_wd a_one a_two a_mmade a_mrest a_old v_thrown v_mask v_key v_wait v_problem v_code v_length v_cond v_masks v_addr v_mwanted v_wrong v_after v_calls v_oneB v_twoB)) hD hS hA [0] rfl
    refine va_callv (va_runV (As := [.int 6]) (rest := []) ⟨hx, hb, hml, hown, hts⟩ (kX12_meet l D cI cB a_mo a_mem a_mks a_mr a_cnt a_wd a_one a_two a_mmade a_mrest a_old H.size v_thrown v_mask v_key v_wait v_problem v_code v_length v_cond v_masks v_addr v_mwanted v_wrong v_after v_calls v_oneB v_twoB 6) (cwV 1 hts (gd_V wd_838 wd_839 wd_840 wd_807 wd_835) rfl rfl rfl hdX12_meet ⟨Nat.le_of_ble_eq_true rfl, Nat.le_of_ble_eq_true rfl⟩) (preV_std (ci := 12) (q0 := 0) hPc hK hDc hNW rfl rfl) rfl rfl hl.1 rfl (lv_room (Nat.le_of_ble_eq_true rfl)) dX12_quotient_10 ⟨Nat.zero_le _, Nat.zero_le _⟩) hS (fun q _ h => hFc q h) hFc (fun u_10 t9 H1 locs ht9 hvm9 hw9 hB9 hz9 hk9 hS => ?_)
    have eu_10 : u_10 = fX12_meet 6 v_wrong := hw9
    obtain ⟨hP, hD⟩ := back_std (w1 := (wX12_meet cI cB a_mo a_mem a_mks a_mr a_cnt a_wd a_one a_two a_mmade a_mrest a_old v_thrown v_mask v_key v_wait v_problem v_code v_length v_cond v_masks v_addr v_mwanted u_10 v_after v_calls v_oneB v_twoB)) (w2 := (wX12_quotient cI cB a_mo a_mem a_mks a_mr a_cnt a_wd a_one a_two a_mmade a_mrest a_old v_thrown v_mask v_key v_wait v_problem v_code v_length v_cond v_masks v_addr v_mwanted u_10 v_after v_calls v_oneB v_twoB v_mrF)) (wr := [(a_mr, .inl (cI, 16, .inl v_mrF))]) hP hD [0] [1] [1, 0] rfl rfl (by decide) (by decide) hk9 hFc hB9 ht9 (by decide) rfl
    clear hB9 hk9 hz9 hvm9 ht9 hFc hPc hDc
    generalize H1 = H at hP hS ⊢
    exact J_13 u_10 (by (try simp only [← eu_10]); (try simp only [if_pos c_4])) _ _ hP hD hS ls (lv_sub hl [0, 1, 2] rfl)
theorem hdX12_quotient : yX12_quotient.cls = RX12 ∧ yX12_quotient.cls ≠ "java/lang/invoke/MethodHandle" ∧ yX12_quotient.cls ≠ "java/lang/invoke/VarHandle" ∧ (parseMethodDescriptor yX12_quotient.desc).map (fun d => d.parameters.length) = some 2 := by decide +kernel
noncomputable def fX12_reckon (x0 : Int32) (x1 : Int32) (x2 : Int32) (v_cond : Int32) (v_masks : Int32) (v_wrong : Int32) (v_after : Int32) (v_mrF : (Nat → Int32)) : (Int32 × Int32 × Int32 × (Nat → Int32)) :=
  let x_6 := (v_mrF (x1 : Int32).toNatClampNeg)
  if x0 = 0 then (let m_92 : Int32 := (if 0 ≤ x2 then (x2) else ((-x2))); let m_103 : Int32 := (if x2 = (-2147483648) then (1) else (0)); let u_103 := fX12_fixed x1 m_92 m_103 v_cond v_masks v_after v_mrF; (u_103.1, v_wrong, u_103.2.1, u_103.2.2)) else (if x0 = 1 then (let m_121 : Int32 := (if 0 ≤ x2 then ((-x2)) else (x2)); let u_122 := fX12_fixed x1 m_121 0 v_cond v_masks v_after v_mrF; (u_122.1, v_wrong, u_122.2.1, u_122.2.2)) else (if x0 = 2 then (let u_132 := fX12_fixed x1 x2 0 v_cond v_masks v_after v_mrF; (u_132.1, v_wrong, u_132.2.1, u_132.2.2)) else (if x0 = 3 then (let m_153 : Int32 := (if x2 = (-2147483648) then (1) else (0)); let u_153 := fX12_fixed x1 (-x2) m_153 v_cond v_masks v_after v_mrF; (u_153.1, v_wrong, u_153.2.1, u_153.2.2)) else (if x0 = 4 then (let f_168 := upd v_mrF (x1 : Int32).toNatClampNeg ((x_6 &&& x2)); let m_184 : Int32 := (if (f_168 (x1 : Int32).toNatClampNeg) = 0 then (0) else (1)); (m_184, v_wrong, v_after, f_168)) else (if x0 = 5 then (let r_193 := fX12_plain x_6; let r_197 := fX12_plain x2; let r_200 := fX12_byOrder r_193 r_197; (r_200, v_wrong, v_after, v_mrF)) else (if x0 = 6 then (let f_218 := upd v_mrF (x1 : Int32).toNatClampNeg ((x_6 ||| x2)); let m_234 : Int32 := (if (f_218 (x1 : Int32).toNatClampNeg) = 0 then (0) else (1)); (m_234, v_wrong, v_after, f_218)) else (if x0 = 7 then (let f_249 := upd v_mrF (x1 : Int32).toNatClampNeg ((x_6 ^^^ x2)); let m_265 : Int32 := (if (f_249 (x1 : Int32).toNatClampNeg) = 0 then (0) else (1)); (m_265, v_wrong, v_after, f_249)) else (if x0 = 8 then (let f_277 := upd v_mrF (x1 : Int32).toNatClampNeg (x2); (v_cond, v_wrong, v_after, f_277)) else (if x0 = 9 then (let r_287 := fX12_byOrder ((x_6 : Int32).toInt64) ((x2 : Int32).toInt64); (r_287, v_wrong, v_after, v_mrF)) else (if x0 = 10 then (let m_322 : Int32 := (if (lg_cmp (((x_6 : Int32).toInt64 + (x2 : Int32).toInt64)) (((x_6 + x2) : Int32).toInt64)) = 0 then (0) else (1)); let u_322 := fX12_fixed x1 (x_6 + x2) m_322 v_cond v_masks v_after v_mrF; (u_322.1, v_wrong, u_322.2.1, u_322.2.2)) else (if x0 = 11 then (let m_354 : Int32 := (if (lg_cmp (((x_6 : Int32).toInt64 - (x2 : Int32).toInt64)) (((x_6 - x2) : Int32).toInt64)) = 0 then (0) else (1)); let u_354 := fX12_fixed x1 (x_6 - x2) m_354 v_cond v_masks v_after v_mrF; (u_354.1, v_wrong, u_354.2.1, u_354.2.2)) else (if x0 = 12 then (let u_363 := fX12_product x1 x2 v_wrong v_mrF; (v_cond, u_363.1, v_after, u_363.2)) else (if x0 = 13 then (let u_372 := fX12_quotient x1 x2 v_wrong v_mrF; (v_cond, u_372.1, v_after, u_372.2)) else (let m_411 : Int64 := (if x0 = 14 then (let r_386 := fX12_plain x_6; let r_390 := fX12_plain x2; (r_386 + r_390)) else (let r_399 := fX12_plain x_6; let r_405 := fX12_plain (x2 ^^^ (-1)); ((r_399 + r_405) + 1))); let f_421 := upd v_mrF (x1 : Int32).toNatClampNeg ((m_411 : Int64).toInt32); let m_437 : Int32 := (if (f_421 (x1 : Int32).toNatClampNeg) = 0 then (0) else (1)); let m_451 : Int32 := (if (lg_cmp (m_411) (4294967295)) ≤ 0 then (0) else (2)); let x_452 := (m_437 + m_451); (x_452, v_wrong, v_after, f_421)))))))))))))))
abbrev wX12_reckon (cI cB : ClassId) (a_mo a_mem a_mks a_mr a_cnt a_wd a_one a_two a_mmade a_mrest a_old : Nat) (v_thrown : Int32) (v_mask : Int32) (v_key : Int32) (v_wait : Int32) (v_problem : Int32) (v_code : Int32) (v_length : Int32) (v_cond : Int32) (v_masks : Int32) (v_addr : Int32) (v_mwanted : Int32) (v_wrong : Int32) (v_after : Int32) (v_calls : Int32) (v_oneB : Int32) (v_twoB : Int32) (v_mrF : (Nat → Int32)) : va_W := [(a_mo, .inr (12, [.int v_thrown, .ref a_mem, .ref a_mks, .ref a_mr, .int v_mask, .int v_key, .int v_wait, .int v_problem, .int v_code, .int v_length, .int v_cond, .int v_masks, .int v_addr, .int v_mwanted, .ref a_cnt, .ref a_wd, .int v_wrong, .int v_after, .int v_calls, .ref a_one, .int v_oneB, .ref a_two, .int v_twoB, .ref a_mmade, .ref a_mrest, .ref a_old])), (a_mr, .inl (cI, 16, .inl v_mrF))]
abbrev rmX12_reckon : Room := { frames := 3, cells := 0, slots := 0, locals := 68 }
abbrev qX12_reckon (D : va_G) (cI cB : ClassId) (a_mo a_mem a_mks a_mr a_cnt a_wd a_one a_two a_mmade a_mrest a_old : Nat) (v_thrown : Int32) (v_mask : Int32) (v_key : Int32) (v_wait : Int32) (v_problem : Int32) (v_code : Int32) (v_length : Int32) (v_cond : Int32) (v_masks : Int32) (v_addr : Int32) (v_mwanted : Int32) (v_wrong : Int32) (v_after : Int32) (v_calls : Int32) (v_oneB : Int32) (v_twoB : Int32) (v_mrF : (Nat → Int32)) (x0 : Int32) (x1 : Int32) (x2 : Int32) : (Nat → Prop) → Array Value → State → Outcome → State → Prop := fun A9 => va_Qv (fun (u9 : (Int32 × Int32 × Int32 × (Nat → Int32))) => u9 = fX12_reckon x0 x1 x2 v_cond v_masks v_wrong v_after v_mrF) (fun u9 t9 => atW D (TYS cI cB) A9 (wX12_reckon cI cB a_mo a_mem a_mks a_mr a_cnt a_wd a_one a_two a_mmade a_mrest a_old v_thrown v_mask v_key v_wait v_problem v_code v_length u9.1 v_masks v_addr v_mwanted u9.2.1 u9.2.2.1 v_calls v_oneB v_twoB u9.2.2.2) t9) A9
set_option maxHeartbeats 4000000 in
set_option maxRecDepth 100000 in
theorem kX12_reckon (l : Launch) (D : va_G) (cI cB : ClassId) (a_mo a_mem a_mks a_mr a_cnt a_wd a_one a_two a_mmade a_mrest a_old : Nat) (sz : Nat) (v_thrown : Int32) (v_mask : Int32) (v_key : Int32) (v_wait : Int32) (v_problem : Int32) (v_code : Int32) (v_length : Int32) (v_cond : Int32) (v_masks : Int32) (v_addr : Int32) (v_mwanted : Int32) (v_wrong : Int32) (v_after : Int32) (v_calls : Int32) (v_oneB : Int32) (v_twoB : Int32) (v_mrF : (Nat → Int32)) (x0 : Int32) (x1 : Int32) (x2 : Int32) (hk : vp_in x1 16) (hw : 0 ≤ v_wrong) : MetW l yX12_reckon (WK yX12_reckon cX12_reckon 7 none) rmX12_reckon D (TYS cI cB) (wX12_reckon cI cB a_mo a_mem a_mks a_mr a_cnt a_wd a_one a_two a_mmade a_mrest a_old v_thrown v_mask v_key v_wait v_problem v_code v_length v_cond v_masks v_addr v_mwanted v_wrong v_after v_calls v_oneB v_twoB v_mrF) sz [.ref a_mo, .int x0, .int x1, .int x2] (qX12_reckon D cI cB a_mo a_mem a_mks a_mr a_cnt a_wd a_one a_two a_mmade a_mrest a_old v_thrown v_mask v_key v_wait v_problem v_code v_length v_cond v_masks v_addr v_mwanted v_wrong v_after v_calls v_oneB v_twoB v_mrF x0 x1 x2) 0 0 := by
  refine met_std (by decide) rfl (Nat.le_of_ble_eq_true rfl) ?_
  intro p e s m below meth c A ls H hx hb hr hml hown hts hlocks hA hP hK hD hS hNW hl
  have hl : lv_has ls 7 [(0, .ref a_mo), (1, .int x0), (2, .int x1), (3, .int x2)] := hl
  generalize ([] : List Loc) = locs at hS ⊢
  have q_0 := hts _ (List.mem_cons_of_mem _ wd_779)
  have q_1 := hts _ (List.mem_cons_of_mem _ wd_874)
  have q_2 := hts _ (List.mem_cons_of_mem _ wd_792)
  have q_3 := hts _ (List.mem_cons_of_mem _ wd_803)
  refine lv_aload_n hx hb dX12_reckon_0 rfl (lv_at hl 0 rfl) ?_
  refine va_get (D := D) (ci := 12) (v := .ref a_mr) (C := RX12) (T := TX12) (N := 26) hx hb hts in_X12 hown hK hP 0 rfl rfl 3 (by decide) q_0 (fun _ h9 => h9) rfl dX12_reckon_1 ?_
  refine lv_iload_n hx hb dX12_reckon_4 rfl (lv_at hl 2 rfl) ?_
  refine va_iald hx hb hK hP 1 0 rfl rfl (by first | with_reducible assumption | exact vin_of (b := 16) (by decide) (by with_reducible assumption) (by with_reducible assumption) | exact vin_of (b := 16) (by decide) (Int32.not_lt.mp (by with_reducible assumption)) (by with_reducible assumption) | exact vin_dn (by decide) (by with_reducible assumption) hI9) dX12_reckon_5 ?_
  refine lv_topi (fun x_6 ex_6 => ?_)
  refine lv_istore (lv' := [(4, .int x_6), (0, .ref a_mo), (1, .int x0), (2, .int x1), (3, .int x2)]) hx hb dX12_reckon_6 hl (by decide) rfl (fun ls hl => ?_)
  refine lv_iload_n hx hb dX12_reckon_8 rfl (lv_at hl 2 rfl) ?_
  by_cases c_9_0 : x0 = 0
  · skip
    refine lv_tableIn (tgt := 80) (off := 71) hx hb dX12_reckon_9 (by rw [c_9_0]; decide) (by rw [c_9_0]; decide) (by rw [c_9_0]; rfl) (by decide) ?_
    refine lv_aload_n hx hb dX12_reckon_80 rfl (lv_at hl 1 rfl) ?_
    refine lv_iload_n hx hb dX12_reckon_81 rfl (lv_at hl 3 rfl) ?_
    refine lv_iload_n hx hb dX12_reckon_82 rfl (lv_at hl 4 rfl) ?_
    have J_92 : ∀ (m_92 : Int32), m_92 = (if 0 ≤ x2 then (x2) else ((-x2))) → ∀ (H : Heap) (locs : List Loc), va_P D vwCl (wX12_reckon cI cB a_mo a_mem a_mks a_mr a_cnt a_wd a_one a_two a_mmade a_mrest a_old v_thrown v_mask v_key v_wait v_problem v_code v_length v_cond v_masks v_addr v_mwanted v_wrong v_after v_calls v_oneB v_twoB v_mrF) H → va_D A (wX12_reckon cI cB a_mo a_mem a_mks a_mr a_cnt a_wd a_one a_two a_mmade a_mrest a_old v_thrown v_mask v_key v_wait v_problem v_code v_length v_cond v_masks v_addr v_mwanted v_wrong v_after v_calls v_oneB v_twoB v_mrF) → va_S A s.heap H locs → ∀ (ls : Array Slot), lv_has ls 7 [(0, .ref a_mo), (1, .int x0), (2, .int x1), (3, .int x2), (4, .int x_6)] → W p l e rmX12_reckon s m ([.ref a_mo, .int x0, .int x1, .int x2] : List Value).toArray below meth c H locs 0 0 (MQ below (qX12_reckon D cI cB a_mo a_mem a_mks a_mr a_cnt a_wd a_one a_two a_mmade a_mrest a_old v_thrown v_mask v_key v_wait v_problem v_code v_length v_cond v_masks v_addr v_mwanted v_wrong v_after v_calls v_oneB v_twoB v_mrF x0 x1 x2 A) ([.ref a_mo, .int x0, .int x1, .int x2] : List Value).toArray s 0 0 A) (F0 m 92 ls [.int m_92, .int x1, .ref a_mo]) := by
      intro m_92 em_92 H locs hP hD hS ls hl
      try dsimp only at em_92
      refine lv_iload_n hx hb dX12_reckon_92 rfl (lv_at hl 3 rfl) ?_
      refine lv_ldc (v := (-2147483648)) hx hb hown q_1 dX12_reckon_93 ?_
      have J_103 : ∀ (m_103 : Int32), m_103 = (if x2 = (-2147483648) then (1) else (0)) → ∀ (H : Heap) (locs : List Loc), va_P D vwCl (wX12_reckon cI cB a_mo a_mem a_mks a_mr a_cnt a_wd a_one a_two a_mmade a_mrest a_old v_thrown v_mask v_key v_wait v_problem v_code v_length v_cond v_masks v_addr v_mwanted v_wrong v_after v_calls v_oneB v_twoB v_mrF) H → va_D A (wX12_reckon cI cB a_mo a_mem a_mks a_mr a_cnt a_wd a_one a_two a_mmade a_mrest a_old v_thrown v_mask v_key v_wait v_problem v_code v_length v_cond v_masks v_addr v_mwanted v_wrong v_after v_calls v_oneB v_twoB v_mrF) → va_S A s.heap H locs → ∀ (ls : Array Slot), lv_has ls 7 [(0, .ref a_mo), (1, .int x0), (2, .int x1), (3, .int x2), (4, .int x_6)] → W p l e rmX12_reckon s m ([.ref a_mo, .int x0, .int x1, .int x2] : List Value).toArray below meth c H locs 0 0 (MQ below (qX12_reckon D cI cB a_mo a_mem a_mks a_mr a_cnt a_wd a_one a_two a_mmade a_mrest a_old v_thrown v_mask v_key v_wait v_problem v_code v_length v_cond v_masks v_addr v_mwanted v_wrong v_after v_calls v_oneB v_twoB v_mrF x0 x1 x2 A) ([.ref a_mo, .int x0, .int x1, .int x2] : List Value).toArray s 0 0 A) (F0 m 103 ls [.int m_103, .int m_92, .int x1, .ref a_mo]) := by
        intro m_103 em_103 H locs hP hD hS ls hl
        try dsimp only at em_103
        have zm_103_0 : m_103 = 0 ∨ m_103 = 1 := by rw [em_103]; (try dsimp only); (repeat' split) <;> first | exact Or.inl rfl | exact Or.inr rfl
        have hPc : va_P D vwCl (wX12_fixed cI cB a_mo a_mem a_mks a_mr a_cnt a_wd a_one a_two a_mmade a_mrest a_old v_thrown v_mask v_key v_wait v_problem v_code v_length v_cond v_masks v_addr v_mwanted v_wrong v_after v_calls v_oneB v_twoB v_mrF) H := hP.sub [0, 1] rfl
        have hDc : va_D A (wX12_fixed cI cB a_mo a_mem a_mks a_mr a_cnt a_wd a_one a_two a_mmade a_mrest a_old v_thrown v_mask v_key v_wait v_problem v_code v_length v_cond v_masks v_addr v_mwanted v_wrong v_after v_calls v_oneB v_twoB v_mrF) := hD.sub [0, 1] (by decide) rfl
        have hFc := va_free (wc := (wX12_fixed cI cB a_mo a_mem a_mks a_mr a_cnt a_wd a_one a_two a_mmade a_mrest a_old v_thrown v_mask v_key v_wait v_problem v_code v_length v_cond v_masks v_addr v_mwanted v_wrong v_after v_calls v_oneB v_twoB v_mrF)) hD hS hA [0, 1] rfl
        refine va_callv (va_runV (As := [.int x1, .int m_92, .int m_103]) (rest := []) ⟨hx, hb, hml, hown, hts⟩ (kX12_fixed l D cI cB a_mo a_mem a_mks a_mr a_cnt a_wd a_one a_two a_mmade a_mrest a_old H.size v_thrown v_mask v_key v_wait v_problem v_code v_length v_cond v_masks v_addr v_mwanted v_wrong v_after v_calls v_oneB v_twoB v_mrF x1 m_92 m_103 (by first | with_reducible assumption | decide | (unfold vp_in; decide))) (cwV 3 hts (gd_V wd_875 wd_876 wd_877 wd_807 wd_847) rfl rfl rfl hdX12_fixed ⟨Nat.le_of_ble_eq_true rfl, Nat.le_of_ble_eq_true rfl⟩) (preV_std (ci := 12) (q0 := 0) hPc hK hDc hNW rfl rfl) rfl rfl hl.1 rfl (lv_room (Nat.le_of_ble_eq_true rfl)) dX12_reckon_103 ⟨Nat.zero_le _, Nat.zero_le _⟩) hS (fun q _ h => hFc q h) hFc (fun u_103 t9 H1 locs ht9 hvm9 hw9 hB9 hz9 hk9 hS => ?_)
        have eu_103 : u_103 = fX12_fixed x1 m_92 m_103 v_cond v_masks v_after v_mrF := hw9
        obtain ⟨hP, hD⟩ := back_std (w1 := (wX12_fixed cI cB a_mo a_mem a_mks a_mr a_cnt a_wd a_one a_two a_mmade a_mrest a_old v_thrown v_mask v_key v_wait v_problem v_code v_length u_103.1 v_masks v_addr v_mwanted v_wrong u_103.2.1 v_calls v_oneB v_twoB u_103.2.2)) (w2 := (wX12_reckon cI cB a_mo a_mem a_mks a_mr a_cnt a_wd a_one a_two a_mmade a_mrest a_old v_thrown v_mask v_key v_wait v_problem v_code v_length u_103.1 v_masks v_addr v_mwanted v_wrong u_103.2.1 v_calls v_oneB v_twoB u_103.2.2)) (wr := []) hP hD [0, 1] [] [0, 1] rfl rfl (by decide) (by decide) hk9 hFc hB9 ht9 (by decide) rfl
        clear hB9 hk9 hz9 hvm9 ht9 hFc hPc hDc
        generalize H1 = H at hP hS ⊢
        refine lv_goto (tgt := 458) hx hb dX12_reckon_106 (by decide) ?_
        have hf9 : (u_103.1, v_wrong, u_103.2.1, u_103.2.2) = fX12_reckon x0 x1 x2 v_cond v_masks v_wrong v_after v_mrF := by subst ex_6; simp only [fX12_reckon, ← em_92, ← em_103, ← eu_103]; (try simp only [if_pos c_9_0])
        exact W.vret hx hb hr (fun t9 ht9 hW9 => ⟨⟨(u_103.1, v_wrong, u_103.2.1, u_103.2.2), rfl, hf9, ⟨by rw [ht9]; exact hP, va_K.moved hW9.alike hK, hD⟩⟩, hS.F ht9⟩) hS.2.2 dX12_reckon_458
      refine lv_icmp_ne (tgt := 102) hx hb dX12_reckon_95 (by decide) (fun c_95 => ?_) (fun c_95 => ?_)
      · skip
        refine lv_iconst (v := 0) hx hb dX12_reckon_102 (by decide) ?_
        exact J_103 0 (by (try simp only [if_neg c_95])) _ _ hP hD hS ls (lv_sub hl [0, 1, 2, 3, 4] rfl)
      · skip
        refine lv_iconst (v := 1) hx hb dX12_reckon_98 (by decide) ?_
        refine lv_goto (tgt := 103) hx hb dX12_reckon_99 (by decide) ?_
        exact J_103 1 (by (try simp only [if_pos c_95])) _ _ hP hD hS ls (lv_sub hl [0, 1, 2, 3, 4] rfl)
    refine lv_if_ge (tgt := 91) hx hb dX12_reckon_83 (by decide) (fun c_83 => ?_) (fun c_83 => ?_)
    · skip
      refine lv_iload_n hx hb dX12_reckon_91 rfl (lv_at hl 4 rfl) ?_
      exact J_92 x2 (by (try simp only [if_pos c_83])) _ _ hP hD hS ls (lv_sub hl [1, 2, 3, 4, 0] rfl)
    · skip
      refine lv_iload_n hx hb dX12_reckon_86 rfl (lv_at hl 4 rfl) ?_
      refine lv_ineg hx hb dX12_reckon_87 ?_
      refine lv_goto (tgt := 92) hx hb dX12_reckon_88 (by decide) ?_
      exact J_92 (-x2) (by (try simp only [if_neg c_83])) _ _ hP hD hS ls (lv_sub hl [1, 2, 3, 4, 0] rfl)
  · skip
    by_cases c_9_1 : x0 = 1
    · skip
      refine lv_tableIn (tgt := 109) (off := 100) hx hb dX12_reckon_9 (by rw [c_9_1]; decide) (by rw [c_9_1]; decide) (by rw [c_9_1]; rfl) (by decide) ?_
      refine lv_aload_n hx hb dX12_reckon_109 rfl (lv_at hl 1 rfl) ?_
      refine lv_iload_n hx hb dX12_reckon_110 rfl (lv_at hl 3 rfl) ?_
      refine lv_iload_n hx hb dX12_reckon_111 rfl (lv_at hl 4 rfl) ?_
      have J_121 : ∀ (m_121 : Int32), m_121 = (if 0 ≤ x2 then ((-x2)) else (x2)) → ∀ (H : Heap) (locs : List Loc), va_P D vwCl (wX12_reckon cI cB a_mo a_mem a_mks a_mr a_cnt a_wd a_one a_two a_mmade a_mrest a_old v_thrown v_mask v_key v_wait v_problem v_code v_length v_cond v_masks v_addr v_mwanted v_wrong v_after v_calls v_oneB v_twoB v_mrF) H → va_D A (wX12_reckon cI cB a_mo a_mem a_mks a_mr a_cnt a_wd a_one a_two a_mmade a_mrest a_old v_thrown v_mask v_key v_wait v_problem v_code v_length v_cond v_masks v_addr v_mwanted v_wrong v_after v_calls v_oneB v_twoB v_mrF) → va_S A s.heap H locs → ∀ (ls : Array Slot), lv_has ls 7 [(0, .ref a_mo), (1, .int x0), (2, .int x1), (3, .int x2), (4, .int x_6)] → W p l e rmX12_reckon s m ([.ref a_mo, .int x0, .int x1, .int x2] : List Value).toArray below meth c H locs 0 0 (MQ below (qX12_reckon D cI cB a_mo a_mem a_mks a_mr a_cnt a_wd a_one a_two a_mmade a_mrest a_old v_thrown v_mask v_key v_wait v_problem v_code v_length v_cond v_masks v_addr v_mwanted v_wrong v_after v_calls v_oneB v_twoB v_mrF x0 x1 x2 A) ([.ref a_mo, .int x0, .int x1, .int x2] : List Value).toArray s 0 0 A) (F0 m 121 ls [.int m_121, .int x1, .ref a_mo]) := by
        intro m_121 em_121 H locs hP hD hS ls hl
        try dsimp only at em_121
        refine lv_iconst (v := 0) hx hb dX12_reckon_121 (by decide) ?_
        have hPc : va_P D vwCl (wX12_fixed cI cB a_mo a_mem a_mks a_mr a_cnt a_wd a_one a_two a_mmade a_mrest a_old v_thrown v_mask v_key v_wait v_problem v_code v_length v_cond v_masks v_addr v_mwanted v_wrong v_after v_calls v_oneB v_twoB v_mrF) H := hP.sub [0, 1] rfl
        have hDc : va_D A (wX12_fixed cI cB a_mo a_mem a_mks a_mr a_cnt a_wd a_one a_two a_mmade a_mrest a_old v_thrown v_mask v_key v_wait v_problem v_code v_length v_cond v_masks v_addr v_mwanted v_wrong v_after v_calls v_oneB v_twoB v_mrF) := hD.sub [0, 1] (by decide) rfl
        have hFc := va_free (wc := (wX12_fixed cI cB a_mo a_mem a_mks a_mr a_cnt a_wd a_one a_two a_mmade a_mrest a_old v_thrown v_mask v_key v_wait v_problem v_code v_length v_cond v_masks v_addr v_mwanted v_wrong v_after v_calls v_oneB v_twoB v_mrF)) hD hS hA [0, 1] rfl
        refine va_callv (va_runV (As := [.int x1, .int m_121, .int 0]) (rest := []) ⟨hx, hb, hml, hown, hts⟩ (kX12_fixed l D cI cB a_mo a_mem a_mks a_mr a_cnt a_wd a_one a_two a_mmade a_mrest a_old H.size v_thrown v_mask v_key v_wait v_problem v_code v_length v_cond v_masks v_addr v_mwanted v_wrong v_after v_calls v_oneB v_twoB v_mrF x1 m_121 0 (by first | with_reducible assumption | decide | (unfold vp_in; decide))) (cwV 3 hts (gd_V wd_875 wd_876 wd_877 wd_807 wd_847) rfl rfl rfl hdX12_fixed ⟨Nat.le_of_ble_eq_true rfl, Nat.le_of_ble_eq_true rfl⟩) (preV_std (ci := 12) (q0 := 0) hPc hK hDc hNW rfl rfl) rfl rfl hl.1 rfl (lv_room (Nat.le_of_ble_eq_true rfl)) dX12_reckon_122 ⟨Nat.zero_le _, Nat.zero_le _⟩) hS (fun q _ h => hFc q h) hFc (fun u_122 t9 H1 locs ht9 hvm9 hw9 hB9 hz9 hk9 hS => ?_)
        have eu_122 : u_122 = fX12_fixed x1 m_121 0 v_cond v_masks v_after v_mrF := hw9
        obtain ⟨hP, hD⟩ := back_std (w1 := (wX12_fixed cI cB a_mo a_mem a_mks a_mr a_cnt a_wd a_one a_two a_mmade a_mrest a_old v_thrown v_mask v_key v_wait v_problem v_code v_length u_122.1 v_masks v_addr v_mwanted v_wrong u_122.2.1 v_calls v_oneB v_twoB u_122.2.2)) (w2 := (wX12_reckon cI cB a_mo a_mem a_mks a_mr a_cnt a_wd a_one a_two a_mmade a_mrest a_old v_thrown v_mask v_key v_wait v_problem v_code v_length u_122.1 v_masks v_addr v_mwanted v_wrong u_122.2.1 v_calls v_oneB v_twoB u_122.2.2)) (wr := []) hP hD [0, 1] [] [0, 1] rfl rfl (by decide) (by decide) hk9 hFc hB9 ht9 (by decide) rfl
        clear hB9 hk9 hz9 hvm9 ht9 hFc hPc hDc
        generalize H1 = H at hP hS ⊢
        refine lv_goto (tgt := 458) hx hb dX12_reckon_125 (by decide) ?_
        have hf9 : (u_122.1, v_wrong, u_122.2.1, u_122.2.2) = fX12_reckon x0 x1 x2 v_cond v_masks v_wrong v_after v_mrF := by subst ex_6; simp only [fX12_reckon, ← em_121, ← eu_122]; (try simp only [if_neg c_9_0, if_pos c_9_1])
        exact W.vret hx hb hr (fun t9 ht9 hW9 => ⟨⟨(u_122.1, v_wrong, u_122.2.1, u_122.2.2), rfl, hf9, ⟨by rw [ht9]; exact hP, va_K.moved hW9.alike hK, hD⟩⟩, hS.F ht9⟩) hS.2.2 dX12_reckon_458
      refine lv_if_ge (tgt := 119) hx hb dX12_reckon_112 (by decide) (fun c_112 => ?_) (fun c_112 => ?_)
      · skip
        refine lv_iload_n hx hb dX12_reckon_119 rfl (lv_at hl 4 rfl) ?_
        refine lv_ineg hx hb dX12_reckon_120 ?_
        exact J_121 (-x2) (by (try simp only [if_pos c_112])) _ _ hP hD hS ls (lv_sub hl [1, 2, 3, 4, 0] rfl)
      · skip
        refine lv_iload_n hx hb dX12_reckon_115 rfl (lv_at hl 4 rfl) ?_
        refine lv_goto (tgt := 121) hx hb dX12_reckon_116 (by decide) ?_
        exact J_121 x2 (by (try simp only [if_neg c_112])) _ _ hP hD hS ls (lv_sub hl [1, 2, 3, 4, 0] rfl)
    · skip
      by_cases c_9_2 : x0 = 2
      · skip
        refine lv_tableIn (tgt := 128) (off := 119) hx hb dX12_reckon_9 (by rw [c_9_2]; decide) (by rw [c_9_2]; decide) (by rw [c_9_2]; rfl) (by decide) ?_
        refine lv_aload_n hx hb dX12_reckon_128 rfl (lv_at hl 1 rfl) ?_
        refine lv_iload_n hx hb dX12_reckon_129 rfl (lv_at hl 3 rfl) ?_
        refine lv_iload_n hx hb dX12_reckon_130 rfl (lv_at hl 4 rfl) ?_
        refine lv_iconst (v := 0) hx hb dX12_reckon_131 (by decide) ?_
        have hPc : va_P D vwCl (wX12_fixed cI cB a_mo a_mem a_mks a_mr a_cnt a_wd a_one a_two a_mmade a_mrest a_old v_thrown v_mask v_key v_wait v_problem v_code v_length v_cond v_masks v_addr v_mwanted v_wrong v_after v_calls v_oneB v_twoB v_mrF) H := hP.sub [0, 1] rfl
        have hDc : va_D A (wX12_fixed cI cB a_mo a_mem a_mks a_mr a_cnt a_wd a_one a_two a_mmade a_mrest a_old v_thrown v_mask v_key v_wait v_problem v_code v_length v_cond v_masks v_addr v_mwanted v_wrong v_after v_calls v_oneB v_twoB v_mrF) := hD.sub [0, 1] (by decide) rfl
        have hFc := va_free (wc := (wX12_fixed cI cB a_mo a_mem a_mks a_mr a_cnt a_wd a_one a_two a_mmade a_mrest a_old v_thrown v_mask v_key v_wait v_problem v_code v_length v_cond v_masks v_addr v_mwanted v_wrong v_after v_calls v_oneB v_twoB v_mrF)) hD hS hA [0, 1] rfl
        refine va_callv (va_runV (As := [.int x1, .int x2, .int 0]) (rest := []) ⟨hx, hb, hml, hown, hts⟩ (kX12_fixed l D cI cB a_mo a_mem a_mks a_mr a_cnt a_wd a_one a_two a_mmade a_mrest a_old H.size v_thrown v_mask v_key v_wait v_problem v_code v_length v_cond v_masks v_addr v_mwanted v_wrong v_after v_calls v_oneB v_twoB v_mrF x1 x2 0 (by first | with_reducible assumption | decide | (unfold vp_in; decide))) (cwV 3 hts (gd_V wd_875 wd_876 wd_877 wd_807 wd_847) rfl rfl rfl hdX12_fixed ⟨Nat.le_of_ble_eq_true rfl, Nat.le_of_ble_eq_true rfl⟩) (preV_std (ci := 12) (q0 := 0) hPc hK hDc hNW rfl rfl) rfl rfl hl.1 rfl (lv_room (Nat.le_of_ble_eq_true rfl)) dX12_reckon_132 ⟨Nat.zero_le _, Nat.zero_le _⟩) hS (fun q _ h => hFc q h) hFc (fun u_132 t9 H1 locs ht9 hvm9 hw9 hB9 hz9 hk9 hS => ?_)
        have eu_132 : u_132 = fX12_fixed x1 x2 0 v_cond v_masks v_after v_mrF := hw9
        obtain ⟨hP, hD⟩ := back_std (w1 := (wX12_fixed cI cB a_mo a_mem a_mks a_mr a_cnt a_wd a_one a_two a_mmade a_mrest a_old v_thrown v_mask v_key v_wait v_problem v_code v_length u_132.1 v_masks v_addr v_mwanted v_wrong u_132.2.1 v_calls v_oneB v_twoB u_132.2.2)) (w2 := (wX12_reckon cI cB a_mo a_mem a_mks a_mr a_cnt a_wd a_one a_two a_mmade a_mrest a_old v_thrown v_mask v_key v_wait v_problem v_code v_length u_132.1 v_masks v_addr v_mwanted v_wrong u_132.2.1 v_calls v_oneB v_twoB u_132.2.2)) (wr := []) hP hD [0, 1] [] [0, 1] rfl rfl (by decide) (by decide) hk9 hFc hB9 ht9 (by decide) rfl
        clear hB9 hk9 hz9 hvm9 ht9 hFc hPc hDc
        generalize H1 = H at hP hS ⊢
        refine lv_goto (tgt := 458) hx hb dX12_reckon_135 (by decide) ?_
        have hf9 : (u_132.1, v_wrong, u_132.2.1, u_132.2.2) = fX12_reckon x0 x1 x2 v_cond v_masks v_wrong v_after v_mrF := by subst ex_6; simp only [fX12_reckon, ← eu_132]; (try simp only [if_neg c_9_0, if_neg c_9_1, if_pos c_9_2])
        exact W.vret hx hb hr (fun t9 ht9 hW9 => ⟨⟨(u_132.1, v_wrong, u_132.2.1, u_132.2.2), rfl, hf9, ⟨by rw [ht9]; exact hP, va_K.moved hW9.alike hK, hD⟩⟩, hS.F ht9⟩) hS.2.2 dX12_reckon_458
      · skip
        by_cases c_9_3 : x0 = 3
        · skip
          refine lv_tableIn (tgt := 138) (off := 129) hx hb dX12_reckon_9 (by rw [c_9_3]; decide) (by rw [c_9_3]; decide) (by rw [c_9_3]; rfl) (by decide) ?_
          refine lv_aload_n hx hb dX12_reckon_138 rfl (lv_at hl 1 rfl) ?_
          refine lv_iload_n hx hb dX12_reckon_139 rfl (lv_at hl 3 rfl) ?_
          refine lv_iload_n hx hb dX12_reckon_140 rfl (lv_at hl 4 rfl) ?_
          refine lv_ineg hx hb dX12_reckon_141 ?_
          refine lv_iload_n hx hb dX12_reckon_142 rfl (lv_at hl 4 rfl) ?_
          refine lv_ldc (v := (-2147483648)) hx hb hown q_1 dX12_reckon_143 ?_
          have J_153 : ∀ (m_153 : Int32), m_153 = (if x2 = (-2147483648) then (1) else (0)) → ∀ (H : Heap) (locs : List Loc), va_P D vwCl (wX12_reckon cI cB a_mo a_mem a_mks a_mr a_cnt a_wd a_one a_two a_mmade a_mrest a_old v_thrown v_mask v_key v_wait v_problem v_code v_length v_cond v_masks v_addr v_mwanted v_wrong v_after v_calls v_oneB v_twoB v_mrF) H → va_D A (wX12_reckon cI cB a_mo a_mem a_mks a_mr a_cnt a_wd a_one a_two a_mmade a_mrest a_old v_thrown v_mask v_key v_wait v_problem v_code v_length v_cond v_masks v_addr v_mwanted v_wrong v_after v_calls v_oneB v_twoB v_mrF) → va_S A s.heap H locs → ∀ (ls : Array Slot), lv_has ls 7 [(0, .ref a_mo), (1, .int x0), (2, .int x1), (3, .int x2), (4, .int x_6)] → W p l e rmX12_reckon s m ([.ref a_mo, .int x0, .int x1, .int x2] : List Value).toArray below meth c H locs 0 0 (MQ below (qX12_reckon D cI cB a_mo a_mem a_mks a_mr a_cnt a_wd a_one a_two a_mmade a_mrest a_old v_thrown v_mask v_key v_wait v_problem v_code v_length v_cond v_masks v_addr v_mwanted v_wrong v_after v_calls v_oneB v_twoB v_mrF x0 x1 x2 A) ([.ref a_mo, .int x0, .int x1, .int x2] : List Value).toArray s 0 0 A) (F0 m 153 ls [.int m_153, .int (-x2), .int x1, .ref a_mo]) := by
            intro m_153 em_153 H locs hP hD hS ls hl
            try dsimp only at em_153
            have zm_153_0 : m_153 = 0 ∨ m_153 = 1 := by rw [em_153]; (try dsimp only); (repeat' split) <;> first | exact Or.inl rfl | exact Or.inr rfl
            have hPc : va_P D vwCl (wX12_fixed cI cB a_mo a_mem a_mks a_mr a_cnt a_wd a_one a_two a_mmade a_mrest a_old v_thrown v_mask v_key v_wait v_problem v_code v_length v_cond v_masks v_addr v_mwanted v_wrong v_after v_calls v_oneB v_twoB v_mrF) H := hP.sub [0, 1] rfl
            have hDc : va_D A (wX12_fixed cI cB a_mo a_mem a_mks a_mr a_cnt a_wd a_one a_two a_mmade a_mrest a_old v_thrown v_mask v_key v_wait v_problem v_code v_length v_cond v_masks v_addr v_mwanted v_wrong v_after v_calls v_oneB v_twoB v_mrF) := hD.sub [0, 1] (by decide) rfl
            have hFc := va_free (wc := (wX12_fixed cI cB a_mo a_mem a_mks a_mr a_cnt a_wd a_one a_two a_mmade a_mrest a_old v_thrown v_mask v_key v_wait v_problem v_code v_length v_cond v_masks v_addr v_mwanted v_wrong v_after v_calls v_oneB v_twoB v_mrF)) hD hS hA [0, 1] rfl
            refine va_callv (va_runV (As := [.int x1, .int (-x2), .int m_153]) (rest := []) ⟨hx, hb, hml, hown, hts⟩ (kX12_fixed l D cI cB a_mo a_mem a_mks a_mr a_cnt a_wd a_one a_two a_mmade a_mrest a_old H.size v_thrown v_mask v_key v_wait v_problem v_code v_length v_cond v_masks v_addr v_mwanted v_wrong v_after v_calls v_oneB v_twoB v_mrF x1 (-x2) m_153 (by first | with_reducible assumption | decide | (unfold vp_in; decide))) (cwV 3 hts (gd_V wd_875 wd_876 wd_877 wd_807 wd_847) rfl rfl rfl hdX12_fixed ⟨Nat.le_of_ble_eq_true rfl, Nat.le_of_ble_eq_true rfl⟩) (preV_std (ci := 12) (q0 := 0) hPc hK hDc hNW rfl rfl) rfl rfl hl.1 rfl (lv_room (Nat.le_of_ble_eq_true rfl)) dX12_reckon_153 ⟨Nat.zero_le _, Nat.zero_le _⟩) hS (fun q _ h => hFc q h) hFc (fun u_153 t9 H1 locs ht9 hvm9 hw9 hB9 hz9 hk9 hS => ?_)
            have eu_153 : u_153 = fX12_fixed x1 (-x2) m_153 v_cond v_masks v_after v_mrF := hw9
            obtain ⟨hP, hD⟩ := back_std (w1 := (wX12_fixed cI cB a_mo a_mem a_mks a_mr a_cnt a_wd a_one a_two a_mmade a_mrest a_old v_thrown v_mask v_key v_wait v_problem v_code v_length u_153.1 v_masks v_addr v_mwanted v_wrong u_153.2.1 v_calls v_oneB v_twoB u_153.2.2)) (w2 := (wX12_reckon cI cB a_mo a_mem a_mks a_mr a_cnt a_wd a_one a_two a_mmade a_mrest a_old v_thrown v_mask v_key v_wait v_problem v_code v_length u_153.1 v_masks v_addr v_mwanted v_wrong u_153.2.1 v_calls v_oneB v_twoB u_153.2.2)) (wr := []) hP hD [0, 1] [] [0, 1] rfl rfl (by decide) (by decide) hk9 hFc hB9 ht9 (by decide) rfl
            clear hB9 hk9 hz9 hvm9 ht9 hFc hPc hDc
            generalize H1 = H at hP hS ⊢
            refine lv_goto (tgt := 458) hx hb dX12_reckon_156 (by decide) ?_
            have hf9 : (u_153.1, v_wrong, u_153.2.1, u_153.2.2) = fX12_reckon x0 x1 x2 v_cond v_masks v_wrong v_after v_mrF := by subst ex_6; simp only [fX12_reckon, ← em_153, ← eu_153]; (try simp only [if_neg c_9_0, if_neg c_9_1, if_neg c_9_2, if_pos c_9_3])
            exact W.vret hx hb hr (fun t9 ht9 hW9 => ⟨⟨(u_153.1, v_wrong, u_153.2.1, u_153.2.2), rfl, hf9, ⟨by rw [ht9]; exact hP, va_K.moved hW9.alike hK, hD⟩⟩, hS.F ht9⟩) hS.2.2 dX12_reckon_458
          refine lv_icmp_ne (tgt := 152) hx hb dX12_reckon_145 (by decide) (fun c_145 => ?_) (fun c_145 => ?_)
          · skip
            refine lv_iconst (v := 0) hx hb dX12_reckon_152 (by decide) ?_
            exact J_153 0 (by (try simp only [if_neg c_145])) _ _ hP hD hS ls (lv_sub hl [1, 2, 3, 4, 0] rfl)
          · skip
            refine lv_iconst (v := 1) hx hb dX12_reckon_148 (by decide) ?_
            refine lv_goto (tgt := 153) hx hb dX12_reckon_149 (by decide) ?_
            exact J_153 1 (by (try simp only [if_pos c_145])) _ _ hP hD hS ls (lv_sub hl [1, 2, 3, 4, 0] rfl)
        · skip
          by_cases c_9_4 : x0 = 4
          · skip
            refine lv_tableIn (tgt := 159) (off := 150) hx hb dX12_reckon_9 (by rw [c_9_4]; decide) (by rw [c_9_4]; decide) (by rw [c_9_4]; rfl) (by decide) ?_
            refine lv_aload_n hx hb dX12_reckon_159 rfl (lv_at hl 1 rfl) ?_
            refine va_get (D := D) (ci := 12) (v := .ref a_mr) (C := RX12) (T := TX12) (N := 26) hx hb hts in_X12 hown hK hP 0 rfl rfl 3 (by decide) q_0 (fun _ h9 => h9) rfl dX12_reckon_160 ?_
            refine lv_iload_n hx hb dX12_reckon_163 rfl (lv_at hl 3 rfl) ?_
            refine lv_iload hx hb dX12_reckon_164 (lv_at hl 0 rfl) ?_
            refine lv_iload_n hx hb dX12_reckon_166 rfl (lv_at hl 4 rfl) ?_
            refine lv_iand hx hb dX12_reckon_167 ?_
            refine va_iast hx hb hK hP hD hS 1 0 rfl rfl (by first | with_reducible assumption | exact vin_of (b := 16) (by decide) (by with_reducible assumption) (by with_reducible assumption) | exact vin_of (b := 16) (by decide) (Int32.not_lt.mp (by with_reducible assumption)) (by with_reducible assumption) | exact vin_dn (by decide) (by with_reducible assumption) hI9) dX12_reckon_168 (fun H locs hP hD hS => ?_)
            obtain ⟨f_168, ef_168⟩ : ∃ z : Nat → Int32, z = upd v_mrF (x1 : Int32).toNatClampNeg ((x_6 &&& x2)) := ⟨_, rfl⟩
            have hP : va_P D vwCl (wX12_reckon cI cB a_mo a_mem a_mks a_mr a_cnt a_wd a_one a_two a_mmade a_mrest a_old v_thrown v_mask v_key v_wait v_problem v_code v_length v_cond v_masks v_addr v_mwanted v_wrong v_after v_calls v_oneB v_twoB (upd v_mrF (x1 : Int32).toNatClampNeg ((x_6 &&& x2)))) H := hP
            have hD : va_D A (wX12_reckon cI cB a_mo a_mem a_mks a_mr a_cnt a_wd a_one a_two a_mmade a_mrest a_old v_thrown v_mask v_key v_wait v_problem v_code v_length v_cond v_masks v_addr v_mwanted v_wrong v_after v_calls v_oneB v_twoB (upd v_mrF (x1 : Int32).toNatClampNeg ((x_6 &&& x2)))) := hD
            rw [← ef_168] at hP hD
            refine lv_aload_n hx hb dX12_reckon_169 rfl (lv_at hl 1 rfl) ?_
            refine lv_aload_n hx hb dX12_reckon_170 rfl (lv_at hl 1 rfl) ?_
            refine va_get (D := D) (ci := 12) (v := .ref a_mr) (C := RX12) (T := TX12) (N := 26) hx hb hts in_X12 hown hK hP 0 rfl rfl 3 (by decide) q_0 (fun _ h9 => h9) rfl dX12_reckon_171 ?_
            refine lv_iload_n hx hb dX12_reckon_174 rfl (lv_at hl 3 rfl) ?_
            refine va_iald hx hb hK hP 1 0 rfl rfl (by first | with_reducible assumption | exact vin_of (b := 16) (by decide) (by with_reducible assumption) (by with_reducible assumption) | exact vin_of (b := 16) (by decide) (Int32.not_lt.mp (by with_reducible assumption)) (by with_reducible assumption) | exact vin_dn (by decide) (by with_reducible assumption) hI9) dX12_reckon_175 ?_
            have J_184 : ∀ (m_184 : Int32), m_184 = (if (f_168 (x1 : Int32).toNatClampNeg) = 0 then (0) else (1)) → ∀ (H : Heap) (locs : List Loc), va_P D vwCl (wX12_reckon cI cB a_mo a_mem a_mks a_mr a_cnt a_wd a_one a_two a_mmade a_mrest a_old v_thrown v_mask v_key v_wait v_problem v_code v_length v_cond v_masks v_addr v_mwanted v_wrong v_after v_calls v_oneB v_twoB f_168) H → va_D A (wX12_reckon cI cB a_mo a_mem a_mks a_mr a_cnt a_wd a_one a_two a_mmade a_mrest a_old v_thrown v_mask v_key v_wait v_problem v_code v_length v_cond v_masks v_addr v_mwanted v_wrong v_after v_calls v_oneB v_twoB f_168) → va_S A s.heap H locs → ∀ (ls : Array Slot), lv_has ls 7 [(0, .ref a_mo), (1, .int x0), (2, .int x1), (3, .int x2), (4, .int x_6)] → W p l e rmX12_reckon s m ([.ref a_mo, .int x0, .int x1, .int x2] : List Value).toArray below meth c H locs 0 0 (MQ below (qX12_reckon D cI cB a_mo a_mem a_mks a_mr a_cnt a_wd a_one a_two a_mmade a_mrest a_old v_thrown v_mask v_key v_wait v_problem v_code v_length v_cond v_masks v_addr v_mwanted v_wrong v_after v_calls v_oneB v_twoB v_mrF x0 x1 x2 A) ([.ref a_mo, .int x0, .int x1, .int x2] : List Value).toArray s 0 0 A) (F0 m 184 ls [.int m_184, .ref a_mo]) := by
              intro m_184 em_184 H locs hP hD hS ls hl
              try dsimp only at em_184
              have zm_184_0 : m_184 = 0 ∨ m_184 = 1 := by rw [em_184]; (try dsimp only); (repeat' split) <;> first | exact Or.inl rfl | exact Or.inr rfl
              refine va_put (D := D) (ci := 12) (v := .int m_184) (ty := .int) (C := RX12) (T := TX12) (N := 26) hx hb hts in_X12 tyX12 tyX12_ok nmX12 hown hK hP hD hS 0 rfl rfl 10 (by decide) q_2 (fun _ h9 => h9) rfl (by decide +kernel) rfl rfl (Nat.le_of_ble_eq_true rfl) dX12_reckon_184 (fun H locs hP hD hS => ?_)
              have hP : va_P D vwCl (wX12_reckon cI cB a_mo a_mem a_mks a_mr a_cnt a_wd a_one a_two a_mmade a_mrest a_old v_thrown v_mask v_key v_wait v_problem v_code v_length m_184 v_masks v_addr v_mwanted v_wrong v_after v_calls v_oneB v_twoB f_168) H := hP
              have hD : va_D A (wX12_reckon cI cB a_mo a_mem a_mks a_mr a_cnt a_wd a_one a_two a_mmade a_mrest a_old v_thrown v_mask v_key v_wait v_problem v_code v_length m_184 v_masks v_addr v_mwanted v_wrong v_after v_calls v_oneB v_twoB f_168) := hD
              refine lv_goto (tgt := 458) hx hb dX12_reckon_187 (by decide) ?_
              have hf9 : (m_184, v_wrong, v_after, f_168) = fX12_reckon x0 x1 x2 v_cond v_masks v_wrong v_after v_mrF := by subst ef_168; subst ex_6; simp only [fX12_reckon, ← em_184]; (try simp only [if_neg c_9_0, if_neg c_9_1, if_neg c_9_2, if_neg c_9_3, if_pos c_9_4])
              exact W.vret hx hb hr (fun t9 ht9 hW9 => ⟨⟨(m_184, v_wrong, v_after, f_168), rfl, hf9, ⟨by rw [ht9]; exact hP, va_K.moved hW9.alike hK, hD⟩⟩, hS.F ht9⟩) hS.2.2 dX12_reckon_458
            refine lv_if_ne (tgt := 183) hx hb dX12_reckon_176 (by decide) (fun c_176 => ?_) (fun c_176 => ?_)
            · skip
              refine lv_iconst (v := 1) hx hb dX12_reckon_183 (by decide) ?_
              exact J_184 1 (by (try simp only [if_neg c_176])) _ _ hP hD hS ls (lv_sub hl [1, 2, 3, 4, 0] rfl)
            · skip
              refine lv_iconst (v := 0) hx hb dX12_reckon_179 (by decide) ?_
              refine lv_goto (tgt := 184) hx hb dX12_reckon_180 (by decide) ?_
              exact J_184 0 (by (try simp only [if_pos c_176])) _ _ hP hD hS ls (lv_sub hl [1, 2, 3, 4, 0] rfl)
          · skip
            by_cases c_9_5 : x0 = 5
            · skip
              refine lv_tableIn (tgt := 190) (off := 181) hx hb dX12_reckon_9 (by rw [c_9_5]; decide) (by rw [c_9_5]; decide) (by rw [c_9_5]; rfl) (by decide) ?_
              refine lv_aload_n hx hb dX12_reckon_190 rfl (lv_at hl 1 rfl) ?_
              refine lv_iload hx hb dX12_reckon_191 (lv_at hl 0 rfl) ?_
              have hPc : va_P D vwCl (wX12_plain cI cB  ) H := hP.sub [] rfl
              have hDc : va_D A (wX12_plain cI cB  ) := hD.sub [] (by decide) rfl
              have hFc := va_free (wc := (wX12_plain cI cB  )) hD hS hA [] rfl
              refine va_calll (va_runS (As := [.int x_6]) (rest := [.ref a_mo]) ⟨hx, hb, hml, hown, hts⟩ (kX12_plain l D cI cB  H.size  x_6) (va_cwS 1 hts (gd_S wd_865 wd_866 wd_807 wd_846) rfl rfl rfl hdX12_plain.2 ⟨Nat.le_of_ble_eq_true rfl, Nat.le_of_ble_eq_true rfl⟩) (preS_std hPc hK hDc hNW) rfl rfl hl.1 rfl (lv_room (Nat.le_of_ble_eq_true rfl)) dX12_reckon_193 ⟨Nat.zero_le _, Nat.zero_le _⟩) hS (fun q _ h => hFc q h) hFc (fun r_193 u_193 t9 H1 locs ht9 hvm9 hw9 hB9 hz9 hk9 hS => ?_)
              have er_193 : r_193 = fX12_plain x_6 := hw9
              obtain ⟨hP, hD⟩ := back_std (w1 := (wX12_plain cI cB  )) (w2 := (wX12_reckon cI cB a_mo a_mem a_mks a_mr a_cnt a_wd a_one a_two a_mmade a_mrest a_old v_thrown v_mask v_key v_wait v_problem v_code v_length v_cond v_masks v_addr v_mwanted v_wrong v_after v_calls v_oneB v_twoB v_mrF)) (wr := [(a_mo, .inr (12, [.int v_thrown, .ref a_mem, .ref a_mks, .ref a_mr, .int v_mask, .int v_key, .int v_wait, .int v_problem, .int v_code, .int v_length, .int v_cond, .int v_masks, .int v_addr, .int v_mwanted, .ref a_cnt, .ref a_wd, .int v_wrong, .int v_after, .int v_calls, .ref a_one, .int v_oneB, .ref a_two, .int v_twoB, .ref a_mmade, .ref a_mrest, .ref a_old])), (a_mr, .inl (cI, 16, .inl v_mrF))]) hP hD [] [0, 1] [0, 1] rfl rfl (by decide) (by decide) hk9 hFc hB9 ht9 (by decide) rfl
              clear hB9 hk9 hz9 hvm9 ht9 hFc hPc hDc
              generalize H1 = H at hP hS ⊢
              refine lv_iload_n hx hb dX12_reckon_196 rfl (lv_at hl 4 rfl) ?_
              have hPc : va_P D vwCl (wX12_plain cI cB  ) H := hP.sub [] rfl
              have hDc : va_D A (wX12_plain cI cB  ) := hD.sub [] (by decide) rfl
              have hFc := va_free (wc := (wX12_plain cI cB  )) hD hS hA [] rfl
              refine va_calll (va_runS (As := [.int x2]) (rest := [.long r_193, .ref a_mo]) ⟨hx, hb, hml, hown, hts⟩ (kX12_plain l D cI cB  H.size  x2) (va_cwS 1 hts (gd_S wd_865 wd_866 wd_807 wd_846) rfl rfl rfl hdX12_plain.2 ⟨Nat.le_of_ble_eq_true rfl, Nat.le_of_ble_eq_true rfl⟩) (preS_std hPc hK hDc hNW) rfl rfl hl.1 rfl (lv_room (Nat.le_of_ble_eq_true rfl)) dX12_reckon_197 ⟨Nat.zero_le _, Nat.zero_le _⟩) hS (fun q _ h => hFc q h) hFc (fun r_197 u_197 t9 H1 locs ht9 hvm9 hw9 hB9 hz9 hk9 hS => ?_)
              have er_197 : r_197 = fX12_plain x2 := hw9
              obtain ⟨hP, hD⟩ := back_std (w1 := (wX12_plain cI cB  )) (w2 := (wX12_reckon cI cB a_mo a_mem a_mks a_mr a_cnt a_wd a_one a_two a_mmade a_mrest a_old v_thrown v_mask v_key v_wait v_problem v_code v_length v_cond v_masks v_addr v_mwanted v_wrong v_after v_calls v_oneB v_twoB v_mrF)) (wr := [(a_mo, .inr (12, [.int v_thrown, .ref a_mem, .ref a_mks, .ref a_mr, .int v_mask, .int v_key, .int v_wait, .int v_problem, .int v_code, .int v_length, .int v_cond, .int v_masks, .int v_addr, .int v_mwanted, .ref a_cnt, .ref a_wd, .int v_wrong, .int v_after, .int v_calls, .ref a_one, .int v_oneB, .ref a_two, .int v_twoB, .ref a_mmade, .ref a_mrest, .ref a_old])), (a_mr, .inl (cI, 16, .inl v_mrF))]) hP hD [] [0, 1] [0, 1] rfl rfl (by decide) (by decide) hk9 hFc hB9 ht9 (by decide) rfl
              clear hB9 hk9 hz9 hvm9 ht9 hFc hPc hDc
              generalize H1 = H at hP hS ⊢
              have hPc : va_P D vwCl (wX12_byOrder cI cB  ) H := hP.sub [] rfl
              have hDc : va_D A (wX12_byOrder cI cB  ) := hD.sub [] (by decide) rfl
              have hFc := va_free (wc := (wX12_byOrder cI cB  )) hD hS hA [] rfl
              refine va_calli (va_runS (As := [.long r_193, .long r_197]) (rest := [.ref a_mo]) ⟨hx, hb, hml, hown, hts⟩ (kX12_byOrder l D cI cB  H.size  r_193 r_197) (va_cwS 2 hts (gd_S wd_878 wd_879 wd_807 wd_845) rfl rfl rfl hdX12_byOrder.2 ⟨Nat.le_of_ble_eq_true rfl, Nat.le_of_ble_eq_true rfl⟩) (preS_std hPc hK hDc hNW) rfl rfl hl.1 rfl (lv_room (Nat.le_of_ble_eq_true rfl)) dX12_reckon_200 ⟨Nat.zero_le _, Nat.zero_le _⟩) hS (fun q _ h => hFc q h) hFc (fun r_200 u_200 t9 H1 locs ht9 hvm9 hw9 hB9 hz9 hk9 hS => ?_)
              have er_200 : r_200 = fX12_byOrder r_193 r_197 := hw9
              obtain ⟨hP, hD⟩ := back_std (w1 := (wX12_byOrder cI cB  )) (w2 := (wX12_reckon cI cB a_mo a_mem a_mks a_mr a_cnt a_wd a_one a_two a_mmade a_mrest a_old v_thrown v_mask v_key v_wait v_problem v_code v_length v_cond v_masks v_addr v_mwanted v_wrong v_after v_calls v_oneB v_twoB v_mrF)) (wr := [(a_mo, .inr (12, [.int v_thrown, .ref a_mem, .ref a_mks, .ref a_mr, .int v_mask, .int v_key, .int v_wait, .int v_problem, .int v_code, .int v_length, .int v_cond, .int v_masks, .int v_addr, .int v_mwanted, .ref a_cnt, .ref a_wd, .int v_wrong, .int v_after, .int v_calls, .ref a_one, .int v_oneB, .ref a_two, .int v_twoB, .ref a_mmade, .ref a_mrest, .ref a_old])), (a_mr, .inl (cI, 16, .inl v_mrF))]) hP hD [] [0, 1] [0, 1] rfl rfl (by decide) (by decide) hk9 hFc hB9 ht9 (by decide) rfl
              clear hB9 hk9 hz9 hvm9 ht9 hFc hPc hDc
              generalize H1 = H at hP hS ⊢
              refine va_put (D := D) (ci := 12) (v := .int r_200) (ty := .int) (C := RX12) (T := TX12) (N := 26) hx hb hts in_X12 tyX12 tyX12_ok nmX12 hown hK hP hD hS 0 rfl rfl 10 (by decide) q_2 (fun _ h9 => h9) rfl (by decide +kernel) rfl rfl (Nat.le_of_ble_eq_true rfl) dX12_reckon_203 (fun H locs hP hD hS => ?_)
              have hP : va_P D vwCl (wX12_reckon cI cB a_mo a_mem a_mks a_mr a_cnt a_wd a_one a_two a_mmade a_mrest a_old v_thrown v_mask v_key v_wait v_problem v_code v_length r_200 v_masks v_addr v_mwanted v_wrong v_after v_calls v_oneB v_twoB v_mrF) H := hP
              have hD : va_D A (wX12_reckon cI cB a_mo a_mem a_mks a_mr a_cnt a_wd a_one a_two a_mmade a_mrest a_old v_thrown v_mask v_key v_wait v_problem v_code v_length r_200 v_masks v_addr v_mwanted v_wrong v_after v_calls v_oneB v_twoB v_mrF) := hD
              refine lv_goto (tgt := 458) hx hb dX12_reckon_206 (by decide) ?_
              have hf9 : (r_200, v_wrong, v_after, v_mrF) = fX12_reckon x0 x1 x2 v_cond v_masks v_wrong v_after v_mrF := by subst ex_6; simp only [fX12_reckon, ← er_193, ← er_197, ← er_200]; (try simp only [if_neg c_9_0, if_neg c_9_1, if_neg c_9_2, if_neg c_9_3, if_neg c_9_4, if_pos c_9_5])
              exact W.vret hx hb hr (fun t9 ht9 hW9 => ⟨⟨(r_200, v_wrong, v_after, v_mrF), rfl, hf9, ⟨by rw [ht9]; exact hP, va_K.moved hW9.alike hK, hD⟩⟩, hS.F ht9⟩) hS.2.2 dX12_reckon_458
            · skip
              by_cases c_9_6 : x0 = 6
              · skip
                refine lv_tableIn (tgt := 209) (off := 200) hx hb dX12_reckon_9 (by rw [c_9_6]; decide) (by rw [c_9_6]; decide) (by rw [c_9_6]; rfl) (by decide) ?_
                refine lv_aload_n hx hb dX12_reckon_209 rfl (lv_at hl 1 rfl) ?_
                refine va_get (D := D) (ci := 12) (v := .ref a_mr) (C := RX12) (T := TX12) (N := 26) hx hb hts in_X12 hown hK hP 0 rfl rfl 3 (by decide) q_0 (fun _ h9 => h9) rfl dX12_reckon_210 ?_
                refine lv_iload_n hx hb dX12_reckon_213 rfl (lv_at hl 3 rfl) ?_
                refine lv_iload hx hb dX12_reckon_214 (lv_at hl 0 rfl) ?_
                refine lv_iload_n hx hb dX12_reckon_216 rfl (lv_at hl 4 rfl) ?_
                refine lv_ior hx hb dX12_reckon_217 ?_
                refine va_iast hx hb hK hP hD hS 1 0 rfl rfl (by first | with_reducible assumption | exact vin_of (b := 16) (by decide) (by with_reducible assumption) (by with_reducible assumption) | exact vin_of (b := 16) (by decide) (Int32.not_lt.mp (by with_reducible assumption)) (by with_reducible assumption) | exact vin_dn (by decide) (by with_reducible assumption) hI9) dX12_reckon_218 (fun H locs hP hD hS => ?_)
                obtain ⟨f_218, ef_218⟩ : ∃ z : Nat → Int32, z = upd v_mrF (x1 : Int32).toNatClampNeg ((x_6 ||| x2)) := ⟨_, rfl⟩
                have hP : va_P D vwCl (wX12_reckon cI cB a_mo a_mem a_mks a_mr a_cnt a_wd a_one a_two a_mmade a_mrest a_old v_thrown v_mask v_key v_wait v_problem v_code v_length v_cond v_masks v_addr v_mwanted v_wrong v_after v_calls v_oneB v_twoB (upd v_mrF (x1 : Int32).toNatClampNeg ((x_6 ||| x2)))) H := hP
                have hD : va_D A (wX12_reckon cI cB a_mo a_mem a_mks a_mr a_cnt a_wd a_one a_two a_mmade a_mrest a_old v_thrown v_mask v_key v_wait v_problem v_code v_length v_cond v_masks v_addr v_mwanted v_wrong v_after v_calls v_oneB v_twoB (upd v_mrF (x1 : Int32).toNatClampNeg ((x_6 ||| x2)))) := hD
                rw [← ef_218] at hP hD
                refine lv_aload_n hx hb dX12_reckon_219 rfl (lv_at hl 1 rfl) ?_
                refine lv_aload_n hx hb dX12_reckon_220 rfl (lv_at hl 1 rfl) ?_
                refine va_get (D := D) (ci := 12) (v := .ref a_mr) (C := RX12) (T := TX12) (N := 26) hx hb hts in_X12 hown hK hP 0 rfl rfl 3 (by decide) q_0 (fun _ h9 => h9) rfl dX12_reckon_221 ?_
                refine lv_iload_n hx hb dX12_reckon_224 rfl (lv_at hl 3 rfl) ?_
                refine va_iald hx hb hK hP 1 0 rfl rfl (by first | with_reducible assumption | exact vin_of (b := 16) (by decide) (by with_reducible assumption) (by with_reducible assumption) | exact vin_of (b := 16) (by decide) (Int32.not_lt.mp (by with_reducible assumption)) (by with_reducible assumption) | exact vin_dn (by decide) (by with_reducible assumption) hI9) dX12_reckon_225 ?_
                have J_234 : ∀ (m_234 : Int32), m_234 = (if (f_218 (x1 : Int32).toNatClampNeg) = 0 then (0) else (1)) → ∀ (H : Heap) (locs : List Loc), va_P D vwCl (wX12_reckon cI cB a_mo a_mem a_mks a_mr a_cnt a_wd a_one a_two a_mmade a_mrest a_old v_thrown v_mask v_key v_wait v_problem v_code v_length v_cond v_masks v_addr v_mwanted v_wrong v_after v_calls v_oneB v_twoB f_218) H → va_D A (wX12_reckon cI cB a_mo a_mem a_mks a_mr a_cnt a_wd a_one a_two a_mmade a_mrest a_old v_thrown v_mask v_key v_wait v_problem v_code v_length v_cond v_masks v_addr v_mwanted v_wrong v_after v_calls v_oneB v_twoB f_218) → va_S A s.heap H locs → ∀ (ls : Array Slot), lv_has ls 7 [(0, .ref a_mo), (1, .int x0), (2, .int x1), (3, .int x2), (4, .int x_6)] → W p l e rmX12_reckon s m ([.ref a_mo, .int x0, .int x1, .int x2] : List Value).toArray below meth c H locs 0 0 (MQ below (qX12_reckon D cI cB a_mo a_mem a_mks a_mr a_cnt a_wd a_one a_two a_mmade a_mrest a_old v_thrown v_mask v_key v_wait v_problem v_code v_length v_cond v_masks v_addr v_mwanted v_wrong v_after v_calls v_oneB v_twoB v_mrF x0 x1 x2 A) ([.ref a_mo, .int x0, .int x1, .int x2] : List Value).toArray s 0 0 A) (F0 m 234 ls [.int m_234, .ref a_mo]) := by
                  intro m_234 em_234 H locs hP hD hS ls hl
                  try dsimp only at em_234
                  have zm_234_0 : m_234 = 0 ∨ m_234 = 1 := by rw [em_234]; (try dsimp only); (repeat' split) <;> first | exact Or.inl rfl | exact Or.inr rfl
                  refine va_put (D := D) (ci := 12) (v := .int m_234) (ty := .int) (C := RX12) (T := TX12) (N := 26) hx hb hts in_X12 tyX12 tyX12_ok nmX12 hown hK hP hD hS 0 rfl rfl 10 (by decide) q_2 (fun _ h9 => h9) rfl (by decide +kernel) rfl rfl (Nat.le_of_ble_eq_true rfl) dX12_reckon_234 (fun H locs hP hD hS => ?_)
                  have hP : va_P D vwCl (wX12_reckon cI cB a_mo a_mem a_mks a_mr a_cnt a_wd a_one a_two a_mmade a_mrest a_old v_thrown v_mask v_key v_wait v_problem v_code v_length m_234 v_masks v_addr v_mwanted v_wrong v_after v_calls v_oneB v_twoB f_218) H := hP
                  have hD : va_D A (wX12_reckon cI cB a_mo a_mem a_mks a_mr a_cnt a_wd a_one a_two a_mmade a_mrest a_old v_thrown v_mask v_key v_wait v_problem v_code v_length m_234 v_masks v_addr v_mwanted v_wrong v_after v_calls v_oneB v_twoB f_218) := hD
                  refine lv_goto (tgt := 458) hx hb dX12_reckon_237 (by decide) ?_
                  have hf9 : (m_234, v_wrong, v_after, f_218) = fX12_reckon x0 x1 x2 v_cond v_masks v_wrong v_after v_mrF := by subst ef_218; subst ex_6; simp only [fX12_reckon, ← em_234]; (try simp only [if_neg c_9_0, if_neg c_9_1, if_neg c_9_2, if_neg c_9_3, if_neg c_9_4, if_neg c_9_5, if_pos c_9_6])
                  exact W.vret hx hb hr (fun t9 ht9 hW9 => ⟨⟨(m_234, v_wrong, v_after, f_218), rfl, hf9, ⟨by rw [ht9]; exact hP, va_K.moved hW9.alike hK, hD⟩⟩, hS.F ht9⟩) hS.2.2 dX12_reckon_458
                refine lv_if_ne (tgt := 233) hx hb dX12_reckon_226 (by decide) (fun c_226 => ?_) (fun c_226 => ?_)
                · skip
                  refine lv_iconst (v := 1) hx hb dX12_reckon_233 (by decide) ?_
                  exact J_234 1 (by (try simp only [if_neg c_226])) _ _ hP hD hS ls (lv_sub hl [1, 2, 3, 4, 0] rfl)
                · skip
                  refine lv_iconst (v := 0) hx hb dX12_reckon_229 (by decide) ?_
                  refine lv_goto (tgt := 234) hx hb dX12_reckon_230 (by decide) ?_
                  exact J_234 0 (by (try simp only [if_pos c_226])) _ _ hP hD hS ls (lv_sub hl [1, 2, 3, 4, 0] rfl)
              · skip
                by_cases c_9_7 : x0 = 7
                · skip
                  refine lv_tableIn (tgt := 240) (off := 231) hx hb dX12_reckon_9 (by rw [c_9_7]; decide) (by rw [c_9_7]; decide) (by rw [c_9_7]; rfl) (by decide) ?_
                  refine lv_aload_n hx hb dX12_reckon_240 rfl (lv_at hl 1 rfl) ?_
                  refine va_get (D := D) (ci := 12) (v := .ref a_mr) (C := RX12) (T := TX12) (N := 26) hx hb hts in_X12 hown hK hP 0 rfl rfl 3 (by decide) q_0 (fun _ h9 => h9) rfl dX12_reckon_241 ?_
                  refine lv_iload_n hx hb dX12_reckon_244 rfl (lv_at hl 3 rfl) ?_
                  refine lv_iload hx hb dX12_reckon_245 (lv_at hl 0 rfl) ?_
                  refine lv_iload_n hx hb dX12_reckon_247 rfl (lv_at hl 4 rfl) ?_
                  refine lv_ixor hx hb dX12_reckon_248 ?_
                  refine va_iast hx hb hK hP hD hS 1 0 rfl rfl (by first | with_reducible assumption | exact vin_of (b := 16) (by decide) (by with_reducible assumption) (by with_reducible assumption) | exact vin_of (b := 16) (by decide) (Int32.not_lt.mp (by with_reducible assumption)) (by with_reducible assumption) | exact vin_dn (by decide) (by with_reducible assumption) hI9) dX12_reckon_249 (fun H locs hP hD hS => ?_)
                  obtain ⟨f_249, ef_249⟩ : ∃ z : Nat → Int32, z = upd v_mrF (x1 : Int32).toNatClampNeg ((x_6 ^^^ x2)) := ⟨_, rfl⟩
                  have hP : va_P D vwCl (wX12_reckon cI cB a_mo a_mem a_mks a_mr a_cnt a_wd a_one a_two a_mmade a_mrest a_old v_thrown v_mask v_key v_wait v_problem v_code v_length v_cond v_masks v_addr v_mwanted v_wrong v_after v_calls v_oneB v_twoB (upd v_mrF (x1 : Int32).toNatClampNeg ((x_6 ^^^ x2)))) H := hP
                  have hD : va_D A (wX12_reckon cI cB a_mo a_mem a_mks a_mr a_cnt a_wd a_one a_two a_mmade a_mrest a_old v_thrown v_mask v_key v_wait v_problem v_code v_length v_cond v_masks v_addr v_mwanted v_wrong v_after v_calls v_oneB v_twoB (upd v_mrF (x1 : Int32).toNatClampNeg ((x_6 ^^^ x2)))) := hD
                  rw [← ef_249] at hP hD
                  refine lv_aload_n hx hb dX12_reckon_250 rfl (lv_at hl 1 rfl) ?_
                  refine lv_aload_n hx hb dX12_reckon_251 rfl (lv_at hl 1 rfl) ?_
                  refine va_get (D := D) (ci := 12) (v := .ref a_mr) (C := RX12) (T := TX12) (N := 26) hx hb hts in_X12 hown hK hP 0 rfl rfl 3 (by decide) q_0 (fun _ h9 => h9) rfl dX12_reckon_252 ?_
                  refine lv_iload_n hx hb dX12_reckon_255 rfl (lv_at hl 3 rfl) ?_
                  refine va_iald hx hb hK hP 1 0 rfl rfl (by first | with_reducible assumption | exact vin_of (b := 16) (by decide) (by with_reducible assumption) (by with_reducible assumption) | exact vin_of (b := 16) (by decide) (Int32.not_lt.mp (by with_reducible assumption)) (by with_reducible assumption) | exact vin_dn (by decide) (by with_reducible assumption) hI9) dX12_reckon_256 ?_
                  have J_265 : ∀ (m_265 : Int32), m_265 = (if (f_249 (x1 : Int32).toNatClampNeg) = 0 then (0) else (1)) → ∀ (H : Heap) (locs : List Loc), va_P D vwCl (wX12_reckon cI cB a_mo a_mem a_mks a_mr a_cnt a_wd a_one a_two a_mmade a_mrest a_old v_thrown v_mask v_key v_wait v_problem v_code v_length v_cond v_masks v_addr v_mwanted v_wrong v_after v_calls v_oneB v_twoB f_249) H → va_D A (wX12_reckon cI cB a_mo a_mem a_mks a_mr a_cnt a_wd a_one a_two a_mmade a_mrest a_old v_thrown v_mask v_key v_wait v_problem v_code v_length v_cond v_masks v_addr v_mwanted v_wrong v_after v_calls v_oneB v_twoB f_249) → va_S A s.heap H locs → ∀ (ls : Array Slot), lv_has ls 7 [(0, .ref a_mo), (1, .int x0), (2, .int x1), (3, .int x2), (4, .int x_6)] → W p l e rmX12_reckon s m ([.ref a_mo, .int x0, .int x1, .int x2] : List Value).toArray below meth c H locs 0 0 (MQ below (qX12_reckon D cI cB a_mo a_mem a_mks a_mr a_cnt a_wd a_one a_two a_mmade a_mrest a_old v_thrown v_mask v_key v_wait v_problem v_code v_length v_cond v_masks v_addr v_mwanted v_wrong v_after v_calls v_oneB v_twoB v_mrF x0 x1 x2 A) ([.ref a_mo, .int x0, .int x1, .int x2] : List Value).toArray s 0 0 A) (F0 m 265 ls [.int m_265, .ref a_mo]) := by
                    intro m_265 em_265 H locs hP hD hS ls hl
                    try dsimp only at em_265
                    have zm_265_0 : m_265 = 0 ∨ m_265 = 1 := by rw [em_265]; (try dsimp only); (repeat' split) <;> first | exact Or.inl rfl | exact Or.inr rfl
                    refine va_put (D := D) (ci := 12) (v := .int m_265) (ty := .int) (C := RX12) (T := TX12) (N := 26) hx hb hts in_X12 tyX12 tyX12_ok nmX12 hown hK hP hD hS 0 rfl rfl 10 (by decide) q_2 (fun _ h9 => h9) rfl (by decide +kernel) rfl rfl (Nat.le_of_ble_eq_true rfl) dX12_reckon_265 (fun H locs hP hD hS => ?_)
                    have hP : va_P D vwCl (wX12_reckon cI cB a_mo a_mem a_mks a_mr a_cnt a_wd a_one a_two a_mmade a_mrest a_old v_thrown v_mask v_key v_wait v_problem v_code v_length m_265 v_masks v_addr v_mwanted v_wrong v_after v_calls v_oneB v_twoB f_249) H := hP
                    have hD : va_D A (wX12_reckon cI cB a_mo a_mem a_mks a_mr a_cnt a_wd a_one a_two a_mmade a_mrest a_old v_thrown v_mask v_key v_wait v_problem v_code v_length m_265 v_masks v_addr v_mwanted v_wrong v_after v_calls v_oneB v_twoB f_249) := hD
                    refine lv_goto (tgt := 458) hx hb dX12_reckon_268 (by decide) ?_
                    have hf9 : (m_265, v_wrong, v_after, f_249) = fX12_reckon x0 x1 x2 v_cond v_masks v_wrong v_after v_mrF := by subst ef_249; subst ex_6; simp only [fX12_reckon, ← em_265]; (try simp only [if_neg c_9_0, if_neg c_9_1, if_neg c_9_2, if_neg c_9_3, if_neg c_9_4, if_neg c_9_5, if_neg c_9_6, if_pos c_9_7])
                    exact W.vret hx hb hr (fun t9 ht9 hW9 => ⟨⟨(m_265, v_wrong, v_after, f_249), rfl, hf9, ⟨by rw [ht9]; exact hP, va_K.moved hW9.alike hK, hD⟩⟩, hS.F ht9⟩) hS.2.2 dX12_reckon_458
                  refine lv_if_ne (tgt := 264) hx hb dX12_reckon_257 (by decide) (fun c_257 => ?_) (fun c_257 => ?_)
                  · skip
                    refine lv_iconst (v := 1) hx hb dX12_reckon_264 (by decide) ?_
                    exact J_265 1 (by (try simp only [if_neg c_257])) _ _ hP hD hS ls (lv_sub hl [1, 2, 3, 4, 0] rfl)
                  · skip
                    refine lv_iconst (v := 0) hx hb dX12_reckon_260 (by decide) ?_
                    refine lv_goto (tgt := 265) hx hb dX12_reckon_261 (by decide) ?_
                    exact J_265 0 (by (try simp only [if_pos c_257])) _ _ hP hD hS ls (lv_sub hl [1, 2, 3, 4, 0] rfl)
                · skip
                  by_cases c_9_8 : x0 = 8
                  · skip
                    refine lv_tableIn (tgt := 271) (off := 262) hx hb dX12_reckon_9 (by rw [c_9_8]; decide) (by rw [c_9_8]; decide) (by rw [c_9_8]; rfl) (by decide) ?_
                    refine lv_aload_n hx hb dX12_reckon_271 rfl (lv_at hl 1 rfl) ?_
                    refine va_get (D := D) (ci := 12) (v := .ref a_mr) (C := RX12) (T := TX12) (N := 26) hx hb hts in_X12 hown hK hP 0 rfl rfl 3 (by decide) q_0 (fun _ h9 => h9) rfl dX12_reckon_272 ?_
                    refine lv_iload_n hx hb dX12_reckon_275 rfl (lv_at hl 3 rfl) ?_
                    refine lv_iload_n hx hb dX12_reckon_276 rfl (lv_at hl 4 rfl) ?_
                    refine va_iast hx hb hK hP hD hS 1 0 rfl rfl (by first | with_reducible assumption | exact vin_of (b := 16) (by decide) (by with_reducible assumption) (by with_reducible assumption) | exact vin_of (b := 16) (by decide) (Int32.not_lt.mp (by with_reducible assumption)) (by with_reducible assumption) | exact vin_dn (by decide) (by with_reducible assumption) hI9) dX12_reckon_277 (fun H locs hP hD hS => ?_)
                    obtain ⟨f_277, ef_277⟩ : ∃ z : Nat → Int32, z = upd v_mrF (x1 : Int32).toNatClampNeg (x2) := ⟨_, rfl⟩
                    have hP : va_P D vwCl (wX12_reckon cI cB a_mo a_mem a_mks a_mr a_cnt a_wd a_one a_two a_mmade a_mrest a_old v_thrown v_mask v_key v_wait v_problem v_code v_length v_cond v_masks v_addr v_mwanted v_wrong v_after v_calls v_oneB v_twoB (upd v_mrF (x1 : Int32).toNatClampNeg (x2))) H := hP
                    have hD : va_D A (wX12_reckon cI cB a_mo a_mem a_mks a_mr a_cnt a_wd a_one a_two a_mmade a_mrest a_old v_thrown v_mask v_key v_wait v_problem v_code v_length v_cond v_masks v_addr v_mwanted v_wrong v_after v_calls v_oneB v_twoB (upd v_mrF (x1 : Int32).toNatClampNeg (x2))) := hD
                    rw [← ef_277] at hP hD
                    refine lv_goto (tgt := 458) hx hb dX12_reckon_278 (by decide) ?_
                    have hf9 : (v_cond, v_wrong, v_after, f_277) = fX12_reckon x0 x1 x2 v_cond v_masks v_wrong v_after v_mrF := by subst ef_277; subst ex_6; simp only [fX12_reckon]; (try simp only [if_neg c_9_0, if_neg c_9_1, if_neg c_9_2, if_neg c_9_3, if_neg c_9_4, if_neg c_9_5, if_neg c_9_6, if_neg c_9_7, if_pos c_9_8])
                    exact W.vret hx hb hr (fun t9 ht9 hW9 => ⟨⟨(v_cond, v_wrong, v_after, f_277), rfl, hf9, ⟨by rw [ht9]; exact hP, va_K.moved hW9.alike hK, hD⟩⟩, hS.F ht9⟩) hS.2.2 dX12_reckon_458
                  · skip
                    by_cases c_9_9 : x0 = 9
                    · skip
                      refine lv_tableIn (tgt := 281) (off := 272) hx hb dX12_reckon_9 (by rw [c_9_9]; decide) (by rw [c_9_9]; decide) (by rw [c_9_9]; rfl) (by decide) ?_
                      refine lv_aload_n hx hb dX12_reckon_281 rfl (lv_at hl 1 rfl) ?_
                      refine lv_iload hx hb dX12_reckon_282 (lv_at hl 0 rfl) ?_
                      refine lv_i2l hx hb dX12_reckon_284 rfl ?_
                      refine lv_iload_n hx hb dX12_reckon_285 rfl (lv_at hl 4 rfl) ?_
                      refine lv_i2l hx hb dX12_reckon_286 rfl ?_
                      have hPc : va_P D vwCl (wX12_byOrder cI cB  ) H := hP.sub [] rfl
                      have hDc : va_D A (wX12_byOrder cI cB  ) := hD.sub [] (by decide) rfl
                      have hFc := va_free (wc := (wX12_byOrder cI cB  )) hD hS hA [] rfl
                      refine va_calli (va_runS (As := [.long (x_6 : Int32).toInt64, .long (x2 : Int32).toInt64]) (rest := [.ref a_mo]) ⟨hx, hb, hml, hown, hts⟩ (kX12_byOrder l D cI cB  H.size  ((x_6 : Int32).toInt64) ((x2 : Int32).toInt64)) (va_cwS 2 hts (gd_S wd_878 wd_879 wd_807 wd_845) rfl rfl rfl hdX12_byOrder.2 ⟨Nat.le_of_ble_eq_true rfl, Nat.le_of_ble_eq_true rfl⟩) (preS_std hPc hK hDc hNW) rfl rfl hl.1 rfl (lv_room (Nat.le_of_ble_eq_true rfl)) dX12_reckon_287 ⟨Nat.zero_le _, Nat.zero_le _⟩) hS (fun q _ h => hFc q h) hFc (fun r_287 u_287 t9 H1 locs ht9 hvm9 hw9 hB9 hz9 hk9 hS => ?_)
                      have er_287 : r_287 = fX12_byOrder ((x_6 : Int32).toInt64) ((x2 : Int32).toInt64) := hw9
                      obtain ⟨hP, hD⟩ := back_std (w1 := (wX12_byOrder cI cB  )) (w2 := (wX12_reckon cI cB a_mo a_mem a_mks a_mr a_cnt a_wd a_one a_two a_mmade a_mrest a_old v_thrown v_mask v_key v_wait v_problem v_code v_length v_cond v_masks v_addr v_mwanted v_wrong v_after v_calls v_oneB v_twoB v_mrF)) (wr := [(a_mo, .inr (12, [.int v_thrown, .ref a_mem, .ref a_mks, .ref a_mr, .int v_mask, .int v_key, .int v_wait, .int v_problem, .int v_code, .int v_length, .int v_cond, .int v_masks, .int v_addr, .int v_mwanted, .ref a_cnt, .ref a_wd, .int v_wrong, .int v_after, .int v_calls, .ref a_one, .int v_oneB, .ref a_two, .int v_twoB, .ref a_mmade, .ref a_mrest, .ref a_old])), (a_mr, .inl (cI, 16, .inl v_mrF))]) hP hD [] [0, 1] [0, 1] rfl rfl (by decide) (by decide) hk9 hFc hB9 ht9 (by decide) rfl
                      clear hB9 hk9 hz9 hvm9 ht9 hFc hPc hDc
                      generalize H1 = H at hP hS ⊢
                      refine va_put (D := D) (ci := 12) (v := .int r_287) (ty := .int) (C := RX12) (T := TX12) (N := 26) hx hb hts in_X12 tyX12 tyX12_ok nmX12 hown hK hP hD hS 0 rfl rfl 10 (by decide) q_2 (fun _ h9 => h9) rfl (by decide +kernel) rfl rfl (Nat.le_of_ble_eq_true rfl) dX12_reckon_290 (fun H locs hP hD hS => ?_)
                      have hP : va_P D vwCl (wX12_reckon cI cB a_mo a_mem a_mks a_mr a_cnt a_wd a_one a_two a_mmade a_mrest a_old v_thrown v_mask v_key v_wait v_problem v_code v_length r_287 v_masks v_addr v_mwanted v_wrong v_after v_calls v_oneB v_twoB v_mrF) H := hP
                      have hD : va_D A (wX12_reckon cI cB a_mo a_mem a_mks a_mr a_cnt a_wd a_one a_two a_mmade a_mrest a_old v_thrown v_mask v_key v_wait v_problem v_code v_length r_287 v_masks v_addr v_mwanted v_wrong v_after v_calls v_oneB v_twoB v_mrF) := hD
                      refine lv_goto (tgt := 458) hx hb dX12_reckon_293 (by decide) ?_
                      have hf9 : (r_287, v_wrong, v_after, v_mrF) = fX12_reckon x0 x1 x2 v_cond v_masks v_wrong v_after v_mrF := by subst ex_6; simp only [fX12_reckon, ← er_287]; (try simp only [if_neg c_9_0, if_neg c_9_1, if_neg c_9_2, if_neg c_9_3, if_neg c_9_4, if_neg c_9_5, if_neg c_9_6, if_neg c_9_7, if_neg c_9_8, if_pos c_9_9])
                      exact W.vret hx hb hr (fun t9 ht9 hW9 => ⟨⟨(r_287, v_wrong, v_after, v_mrF), rfl, hf9, ⟨by rw [ht9]; exact hP, va_K.moved hW9.alike hK, hD⟩⟩, hS.F ht9⟩) hS.2.2 dX12_reckon_458
                    · skip
                      by_cases c_9_10 : x0 = 10
                      · skip
                        refine lv_tableIn (tgt := 296) (off := 287) hx hb dX12_reckon_9 (by rw [c_9_10]; decide) (by rw [c_9_10]; decide) (by rw [c_9_10]; rfl) (by decide) ?_
                        refine lv_aload_n hx hb dX12_reckon_296 rfl (lv_at hl 1 rfl) ?_
                        refine lv_iload_n hx hb dX12_reckon_297 rfl (lv_at hl 3 rfl) ?_
                        refine lv_iload hx hb dX12_reckon_298 (lv_at hl 0 rfl) ?_
                        refine lv_iload_n hx hb dX12_reckon_300 rfl (lv_at hl 4 rfl) ?_
                        refine lv_iadd hx hb dX12_reckon_301 ?_
                        refine lv_iload hx hb dX12_reckon_302 (lv_at hl 0 rfl) ?_
                        refine lv_i2l hx hb dX12_reckon_304 rfl ?_
                        refine lv_iload_n hx hb dX12_reckon_305 rfl (lv_at hl 4 rfl) ?_
                        refine lv_i2l hx hb dX12_reckon_306 rfl ?_
                        refine lv_ladd hx hb dX12_reckon_307 ?_
                        refine lv_iload hx hb dX12_reckon_308 (lv_at hl 0 rfl) ?_
                        refine lv_iload_n hx hb dX12_reckon_310 rfl (lv_at hl 4 rfl) ?_
                        refine lv_iadd hx hb dX12_reckon_311 ?_
                        refine lv_i2l hx hb dX12_reckon_312 rfl ?_
                        refine W.lcmp hx hb dX12_reckon_313 ?_
                        have J_322 : ∀ (m_322 : Int32), m_322 = (if (lg_cmp (((x_6 : Int32).toInt64 + (x2 : Int32).toInt64)) (((x_6 + x2) : Int32).toInt64)) = 0 then (0) else (1)) → ∀ (H : Heap) (locs : List Loc), va_P D vwCl (wX12_reckon cI cB a_mo a_mem a_mks a_mr a_cnt a_wd a_one a_two a_mmade a_mrest a_old v_thrown v_mask v_key v_wait v_problem v_code v_length v_cond v_masks v_addr v_mwanted v_wrong v_after v_calls v_oneB v_twoB v_mrF) H → va_D A (wX12_reckon cI cB a_mo a_mem a_mks a_mr a_cnt a_wd a_one a_two a_mmade a_mrest a_old v_thrown v_mask v_key v_wait v_problem v_code v_length v_cond v_masks v_addr v_mwanted v_wrong v_after v_calls v_oneB v_twoB v_mrF) → va_S A s.heap H locs → ∀ (ls : Array Slot), lv_has ls 7 [(0, .ref a_mo), (1, .int x0), (2, .int x1), (3, .int x2), (4, .int x_6)] → W p l e rmX12_reckon s m ([.ref a_mo, .int x0, .int x1, .int x2] : List Value).toArray below meth c H locs 0 0 (MQ below (qX12_reckon D cI cB a_mo a_mem a_mks a_mr a_cnt a_wd a_one a_two a_mmade a_mrest a_old v_thrown v_mask v_key v_wait v_problem v_code v_length v_cond v_masks v_addr v_mwanted v_wrong v_after v_calls v_oneB v_twoB v_mrF x0 x1 x2 A) ([.ref a_mo, .int x0, .int x1, .int x2] : List Value).toArray s 0 0 A) (F0 m 322 ls [.int m_322, .int (x_6 + x2), .int x1, .ref a_mo]) := by
                          intro m_322 em_322 H locs hP hD hS ls hl
                          try dsimp only at em_322
                          have zm_322_0 : m_322 = 0 ∨ m_322 = 1 := by rw [em_322]; (try dsimp only); (repeat' split) <;> first | exact Or.inl rfl | exact Or.inr rfl
                          have hPc : va_P D vwCl (wX12_fixed cI cB a_mo a_mem a_mks a_mr a_cnt a_wd a_one a_two a_mmade a_mrest a_old v_thrown v_mask v_key v_wait v_problem v_code v_length v_cond v_masks v_addr v_mwanted v_wrong v_after v_calls v_oneB v_twoB v_mrF) H := hP.sub [0, 1] rfl
                          have hDc : va_D A (wX12_fixed cI cB a_mo a_mem a_mks a_mr a_cnt a_wd a_one a_two a_mmade a_mrest a_old v_thrown v_mask v_key v_wait v_problem v_code v_length v_cond v_masks v_addr v_mwanted v_wrong v_after v_calls v_oneB v_twoB v_mrF) := hD.sub [0, 1] (by decide) rfl
                          have hFc := va_free (wc := (wX12_fixed cI cB a_mo a_mem a_mks a_mr a_cnt a_wd a_one a_two a_mmade a_mrest a_old v_thrown v_mask v_key v_wait v_problem v_code v_length v_cond v_masks v_addr v_mwanted v_wrong v_after v_calls v_oneB v_twoB v_mrF)) hD hS hA [0, 1] rfl
                          refine va_callv (va_runV (As := [.int x1, .int (x_6 + x2), .int m_322]) (rest := []) ⟨hx, hb, hml, hown, hts⟩ (kX12_fixed l D cI cB a_mo a_mem a_mks a_mr a_cnt a_wd a_one a_two a_mmade a_mrest a_old H.size v_thrown v_mask v_key v_wait v_problem v_code v_length v_cond v_masks v_addr v_mwanted v_wrong v_after v_calls v_oneB v_twoB v_mrF x1 (x_6 + x2) m_322 (by first | with_reducible assumption | decide | (unfold vp_in; decide))) (cwV 3 hts (gd_V wd_875 wd_876 wd_877 wd_807 wd_847) rfl rfl rfl hdX12_fixed ⟨Nat.le_of_ble_eq_true rfl, Nat.le_of_ble_eq_true rfl⟩) (preV_std (ci := 12) (q0 := 0) hPc hK hDc hNW rfl rfl) rfl rfl hl.1 rfl (lv_room (Nat.le_of_ble_eq_true rfl)) dX12_reckon_322 ⟨Nat.zero_le _, Nat.zero_le _⟩) hS (fun q _ h => hFc q h) hFc (fun u_322 t9 H1 locs ht9 hvm9 hw9 hB9 hz9 hk9 hS => ?_)
                          have eu_322 : u_322 = fX12_fixed x1 (x_6 + x2) m_322 v_cond v_masks v_after v_mrF := hw9
                          obtain ⟨hP, hD⟩ := back_std (w1 := (wX12_fixed cI cB a_mo a_mem a_mks a_mr a_cnt a_wd a_one a_two a_mmade a_mrest a_old v_thrown v_mask v_key v_wait v_problem v_code v_length u_322.1 v_masks v_addr v_mwanted v_wrong u_322.2.1 v_calls v_oneB v_twoB u_322.2.2)) (w2 := (wX12_reckon cI cB a_mo a_mem a_mks a_mr a_cnt a_wd a_one a_two a_mmade a_mrest a_old v_thrown v_mask v_key v_wait v_problem v_code v_length u_322.1 v_masks v_addr v_mwanted v_wrong u_322.2.1 v_calls v_oneB v_twoB u_322.2.2)) (wr := []) hP hD [0, 1] [] [0, 1] rfl rfl (by decide) (by decide) hk9 hFc hB9 ht9 (by decide) rfl
                          clear hB9 hk9 hz9 hvm9 ht9 hFc hPc hDc
                          generalize H1 = H at hP hS ⊢
                          refine lv_goto (tgt := 458) hx hb dX12_reckon_325 (by decide) ?_
                          have hf9 : (u_322.1, v_wrong, u_322.2.1, u_322.2.2) = fX12_reckon x0 x1 x2 v_cond v_masks v_wrong v_after v_mrF := by subst ex_6; simp only [fX12_reckon, ← em_322, ← eu_322]; (try simp only [if_neg c_9_0, if_neg c_9_1, if_neg c_9_2, if_neg c_9_3, if_neg c_9_4, if_neg c_9_5, if_neg c_9_6, if_neg c_9_7, if_neg c_9_8, if_neg c_9_9, if_pos c_9_10])
                          exact W.vret hx hb hr (fun t9 ht9 hW9 => ⟨⟨(u_322.1, v_wrong, u_322.2.1, u_322.2.2), rfl, hf9, ⟨by rw [ht9]; exact hP, va_K.moved hW9.alike hK, hD⟩⟩, hS.F ht9⟩) hS.2.2 dX12_reckon_458
                        refine lv_if_eq (tgt := 321) hx hb dX12_reckon_314 (by decide) (fun c_314 => ?_) (fun c_314 => ?_)
                        · skip
                          refine lv_iconst (v := 0) hx hb dX12_reckon_321 (by decide) ?_
                          exact J_322 0 (by (try simp only [if_pos c_314])) _ _ hP hD hS ls (lv_sub hl [1, 2, 3, 4, 0] rfl)
                        · skip
                          refine lv_iconst (v := 1) hx hb dX12_reckon_317 (by decide) ?_
                          refine lv_goto (tgt := 322) hx hb dX12_reckon_318 (by decide) ?_
                          exact J_322 1 (by (try simp only [if_neg c_314])) _ _ hP hD hS ls (lv_sub hl [1, 2, 3, 4, 0] rfl)
                      · skip
                        by_cases c_9_11 : x0 = 11
                        · skip
                          refine lv_tableIn (tgt := 328) (off := 319) hx hb dX12_reckon_9 (by rw [c_9_11]; decide) (by rw [c_9_11]; decide) (by rw [c_9_11]; rfl) (by decide) ?_
                          refine lv_aload_n hx hb dX12_reckon_328 rfl (lv_at hl 1 rfl) ?_
                          refine lv_iload_n hx hb dX12_reckon_329 rfl (lv_at hl 3 rfl) ?_
                          refine lv_iload hx hb dX12_reckon_330 (lv_at hl 0 rfl) ?_
                          refine lv_iload_n hx hb dX12_reckon_332 rfl (lv_at hl 4 rfl) ?_
                          refine lv_isub hx hb dX12_reckon_333 ?_
                          refine lv_iload hx hb dX12_reckon_334 (lv_at hl 0 rfl) ?_
                          refine lv_i2l hx hb dX12_reckon_336 rfl ?_
                          refine lv_iload_n hx hb dX12_reckon_337 rfl (lv_at hl 4 rfl) ?_
                          refine lv_i2l hx hb dX12_reckon_338 rfl ?_
                          refine lv_lsub hx hb dX12_reckon_339 ?_
                          refine lv_iload hx hb dX12_reckon_340 (lv_at hl 0 rfl) ?_
                          refine lv_iload_n hx hb dX12_reckon_342 rfl (lv_at hl 4 rfl) ?_
                          refine lv_isub hx hb dX12_reckon_343 ?_
                          refine lv_i2l hx hb dX12_reckon_344 rfl ?_
                          refine W.lcmp hx hb dX12_reckon_345 ?_
                          have J_354 : ∀ (m_354 : Int32), m_354 = (if (lg_cmp (((x_6 : Int32).toInt64 - (x2 : Int32).toInt64)) (((x_6 - x2) : Int32).toInt64)) = 0 then (0) else (1)) → ∀ (H : Heap) (locs : List Loc), va_P D vwCl (wX12_reckon cI cB a_mo a_mem a_mks a_mr a_cnt a_wd a_one a_two a_mmade a_mrest a_old v_thrown v_mask v_key v_wait v_problem v_code v_length v_cond v_masks v_addr v_mwanted v_wrong v_after v_calls v_oneB v_twoB v_mrF) H → va_D A (wX12_reckon cI cB a_mo a_mem a_mks a_mr a_cnt a_wd a_one a_two a_mmade a_mrest a_old v_thrown v_mask v_key v_wait v_problem v_code v_length v_cond v_masks v_addr v_mwanted v_wrong v_after v_calls v_oneB v_twoB v_mrF) → va_S A s.heap H locs → ∀ (ls : Array Slot), lv_has ls 7 [(0, .ref a_mo), (1, .int x0), (2, .int x1), (3, .int x2), (4, .int x_6)] → W p l e rmX12_reckon s m ([.ref a_mo, .int x0, .int x1, .int x2] : List Value).toArray below meth c H locs 0 0 (MQ below (qX12_reckon D cI cB a_mo a_mem a_mks a_mr a_cnt a_wd a_one a_two a_mmade a_mrest a_old v_thrown v_mask v_key v_wait v_problem v_code v_length v_cond v_masks v_addr v_mwanted v_wrong v_after v_calls v_oneB v_twoB v_mrF x0 x1 x2 A) ([.ref a_mo, .int x0, .int x1, .int x2] : List Value).toArray s 0 0 A) (F0 m 354 ls [.int m_354, .int (x_6 - x2), .int x1, .ref a_mo]) := by
                            intro m_354 em_354 H locs hP hD hS ls hl
                            try dsimp only at em_354
                            have zm_354_0 : m_354 = 0 ∨ m_354 = 1 := by rw [em_354]; (try dsimp only); (repeat' split) <;> first | exact Or.inl rfl | exact Or.inr rfl
                            have hPc : va_P D vwCl (wX12_fixed cI cB a_mo a_mem a_mks a_mr a_cnt a_wd a_one a_two a_mmade a_mrest a_old v_thrown v_mask v_key v_wait v_problem v_code v_length v_cond v_masks v_addr v_mwanted v_wrong v_after v_calls v_oneB v_twoB v_mrF) H := hP.sub [0, 1] rfl
                            have hDc : va_D A (wX12_fixed cI cB a_mo a_mem a_mks a_mr a_cnt a_wd a_one a_two a_mmade a_mrest a_old v_thrown v_mask v_key v_wait v_problem v_code v_length v_cond v_masks v_addr v_mwanted v_wrong v_after v_calls v_oneB v_twoB v_mrF) := hD.sub [0, 1] (by decide) rfl
                            have hFc := va_free (wc := (wX12_fixed cI cB a_mo a_mem a_mks a_mr a_cnt a_wd a_one a_two a_mmade a_mrest a_old v_thrown v_mask v_key v_wait v_problem v_code v_length v_cond v_masks v_addr v_mwanted v_wrong v_after v_calls v_oneB v_twoB v_mrF)) hD hS hA [0, 1] rfl
                            refine va_callv (va_runV (As := [.int x1, .int (x_6 - x2), .int m_354]) (rest := []) ⟨hx, hb, hml, hown, hts⟩ (kX12_fixed l D cI cB a_mo a_mem a_mks a_mr a_cnt a_wd a_one a_two a_mmade a_mrest a_old H.size v_thrown v_mask v_key v_wait v_problem v_code v_length v_cond v_masks v_addr v_mwanted v_wrong v_after v_calls v_oneB v_twoB v_mrF x1 (x_6 - x2) m_354 (by first | with_reducible assumption | decide | (unfold vp_in; decide))) (cwV 3 hts (gd_V wd_875 wd_876 wd_877 wd_807 wd_847) rfl rfl rfl hdX12_fixed ⟨Nat.le_of_ble_eq_true rfl, Nat.le_of_ble_eq_true rfl⟩) (preV_std (ci := 12) (q0 := 0) hPc hK hDc hNW rfl rfl) rfl rfl hl.1 rfl (lv_room (Nat.le_of_ble_eq_true rfl)) dX12_reckon_354 ⟨Nat.zero_le _, Nat.zero_le _⟩) hS (fun q _ h => hFc q h) hFc (fun u_354 t9 H1 locs ht9 hvm9 hw9 hB9 hz9 hk9 hS => ?_)
                            have eu_354 : u_354 = fX12_fixed x1 (x_6 - x2) m_354 v_cond v_masks v_after v_mrF := hw9
                            obtain ⟨hP, hD⟩ := back_std (w1 := (wX12_fixed cI cB a_mo a_mem a_mks a_mr a_cnt a_wd a_one a_two a_mmade a_mrest a_old v_thrown v_mask v_key v_wait v_problem v_code v_length u_354.1 v_masks v_addr v_mwanted v_wrong u_354.2.1 v_calls v_oneB v_twoB u_354.2.2)) (w2 := (wX12_reckon cI cB a_mo a_mem a_mks a_mr a_cnt a_wd a_one a_two a_mmade a_mrest a_old v_thrown v_mask v_key v_wait v_problem v_code v_length u_354.1 v_masks v_addr v_mwanted v_wrong u_354.2.1 v_calls v_oneB v_twoB u_354.2.2)) (wr := []) hP hD [0, 1] [] [0, 1] rfl rfl (by decide) (by decide) hk9 hFc hB9 ht9 (by decide) rfl
                            clear hB9 hk9 hz9 hvm9 ht9 hFc hPc hDc
                            generalize H1 = H at hP hS ⊢
                            refine lv_goto (tgt := 458) hx hb dX12_reckon_357 (by decide) ?_
                            have hf9 : (u_354.1, v_wrong, u_354.2.1, u_354.2.2) = fX12_reckon x0 x1 x2 v_cond v_masks v_wrong v_after v_mrF := by subst ex_6; simp only [fX12_reckon, ← em_354, ← eu_354]; (try simp only [if_neg c_9_0, if_neg c_9_1, if_neg c_9_2, if_neg c_9_3, if_neg c_9_4, if_neg c_9_5, if_neg c_9_6, if_neg c_9_7, if_neg c_9_8, if_neg c_9_9, if_neg c_9_10, if_pos c_9_11])
                            exact W.vret hx hb hr (fun t9 ht9 hW9 => ⟨⟨(u_354.1, v_wrong, u_354.2.1, u_354.2.2), rfl, hf9, ⟨by rw [ht9]; exact hP, va_K.moved hW9.alike hK, hD⟩⟩, hS.F ht9⟩) hS.2.2 dX12_reckon_458
                          refine lv_if_eq (tgt := 353) hx hb dX12_reckon_346 (by decide) (fun c_346 => ?_) (fun c_346 => ?_)
                          · skip
                            refine lv_iconst (v := 0) hx hb dX12_reckon_353 (by decide) ?_
                            exact J_354 0 (by (try simp only [if_pos c_346])) _ _ hP hD hS ls (lv_sub hl [1, 2, 3, 4, 0] rfl)
                          · skip
                            refine lv_iconst (v := 1) hx hb dX12_reckon_349 (by decide) ?_
                            refine lv_goto (tgt := 354) hx hb dX12_reckon_350 (by decide) ?_
                            exact J_354 1 (by (try simp only [if_neg c_346])) _ _ hP hD hS ls (lv_sub hl [1, 2, 3, 4, 0] rfl)
                        · skip
                          by_cases c_9_12 : x0 = 12
                          · skip
                            refine lv_tableIn (tgt := 360) (off := 351) hx hb dX12_reckon_9 (by rw [c_9_12]; decide) (by rw [c_9_12]; decide) (by rw [c_9_12]; rfl) (by decide) ?_
                            refine lv_aload_n hx hb dX12_reckon_360 rfl (lv_at hl 1 rfl) ?_
                            refine lv_iload_n hx hb dX12_reckon_361 rfl (lv_at hl 3 rfl) ?_
                            refine lv_iload_n hx hb dX12_reckon_362 rfl (lv_at hl 4 rfl) ?_
                            have hPc : va_P D vwCl (wX12_product cI cB a_mo a_mem a_mks a_mr a_cnt a_wd a_one a_two a_mmade a_mrest a_old v_thrown v_mask v_key v_wait v_problem v_code v_length v_cond v_masks v_addr v_mwanted v_wrong v_after v_calls v_oneB v_twoB v_mrF) H := hP.sub [0, 1] rfl
                            have hDc : va_D A (wX12_product cI cB a_mo a_mem a_mks a_mr a_cnt a_wd a_one a_two a_mmade a_mrest a_old v_thrown v_mask v_key v_wait v_problem v_code v_length v_cond v_masks v_addr v_mwanted v_wrong v_after v_calls v_oneB v_twoB v_mrF) := hD.sub [0, 1] (by decide) rfl
                            have hFc := va_free (wc := (wX12_product cI cB a_mo a_mem a_mks a_mr a_cnt a_wd a_one a_two a_mmade a_mrest a_old v_thrown v_mask v_key v_wait v_problem v_code v_length v_cond v_masks v_addr v_mwanted v_wrong v_after v_calls v_oneB v_twoB v_mrF)) hD hS hA [0, 1] rfl
                            refine va_callv (va_runV (As := [.int x1, .int x2]) (rest := []) ⟨hx, hb, hml, hown, hts⟩ (kX12_product l D cI cB a_mo a_mem a_mks a_mr a_cnt a_wd a_one a_two a_mmade a_mrest a_old H.size v_thrown v_mask v_key v_wait v_problem v_code v_length v_cond v_masks v_addr v_mwanted v_wrong v_after v_calls v_oneB v_twoB v_mrF x1 x2 (by first | with_reducible assumption | decide | (unfold vp_in; decide)) (by first | with_reducible assumption | decide | (unfold vp_in; decide))) (cwV 2 hts (gd_V wd_880 wd_881 wd_882 wd_807 wd_863) rfl rfl rfl hdX12_product ⟨Nat.le_of_ble_eq_true rfl, Nat.le_of_ble_eq_true rfl⟩) (preV_std (ci := 12) (q0 := 0) hPc hK hDc hNW rfl rfl) rfl rfl hl.1 rfl (lv_room (Nat.le_of_ble_eq_true rfl)) dX12_reckon_363 ⟨Nat.zero_le _, Nat.zero_le _⟩) hS (fun q _ h => hFc q h) hFc (fun u_363 t9 H1 locs ht9 hvm9 hw9 hB9 hz9 hk9 hS => ?_)
                            have eu_363 : u_363 = fX12_product x1 x2 v_wrong v_mrF := hw9
                            obtain ⟨hP, hD⟩ := back_std (w1 := (wX12_product cI cB a_mo a_mem a_mks a_mr a_cnt a_wd a_one a_two a_mmade a_mrest a_old v_thrown v_mask v_key v_wait v_problem v_code v_length v_cond v_masks v_addr v_mwanted u_363.1 v_after v_calls v_oneB v_twoB u_363.2)) (w2 := (wX12_reckon cI cB a_mo a_mem a_mks a_mr a_cnt a_wd a_one a_two a_mmade a_mrest a_old v_thrown v_mask v_key v_wait v_problem v_code v_length v_cond v_masks v_addr v_mwanted u_363.1 v_after v_calls v_oneB v_twoB u_363.2)) (wr := []) hP hD [0, 1] [] [0, 1] rfl rfl (by decide) (by decide) hk9 hFc hB9 ht9 (by decide) rfl
                            clear hB9 hk9 hz9 hvm9 ht9 hFc hPc hDc
                            generalize H1 = H at hP hS ⊢
                            refine lv_goto (tgt := 458) hx hb dX12_reckon_366 (by decide) ?_
                            have hf9 : (v_cond, u_363.1, v_after, u_363.2) = fX12_reckon x0 x1 x2 v_cond v_masks v_wrong v_after v_mrF := by subst ex_6; simp only [fX12_reckon, ← eu_363]; (try simp only [if_neg c_9_0, if_neg c_9_1, if_neg c_9_2, if_neg c_9_3, if_neg c_9_4, if_neg c_9_5, if_neg c_9_6, if_neg c_9_7, if_neg c_9_8, if_neg c_9_9, if_neg c_9_10, if_neg c_9_11, if_pos c_9_12])
                            exact W.vret hx hb hr (fun t9 ht9 hW9 => ⟨⟨(v_cond, u_363.1, v_after, u_363.2), rfl, hf9, ⟨by rw [ht9]; exact hP, va_K.moved hW9.alike hK, hD⟩⟩, hS.F ht9⟩) hS.2.2 dX12_reckon_458
                          · skip
                            by_cases c_9_13 : x0 = 13
                            · skip
                              refine lv_tableIn (tgt := 369) (off := 360) hx hb dX12_reckon_9 (by rw [c_9_13]; decide) (by rw [c_9_13]; decide) (by rw [c_9_13]; rfl) (by decide) ?_
                              refine lv_aload_n hx hb dX12_reckon_369 rfl (lv_at hl 1 rfl) ?_
                              refine lv_iload_n hx hb dX12_reckon_370 rfl (lv_at hl 3 rfl) ?_
                              refine lv_iload_n hx hb dX12_reckon_371 rfl (lv_at hl 4 rfl) ?_
                              have hPc : va_P D vwCl (wX12_quotient cI cB a_mo a_mem a_mks a_mr a_cnt a_wd a_one a_two a_mmade a_mrest a_old v_thrown v_mask v_key v_wait v_problem v_code v_length v_cond v_masks v_addr v_mwanted v_wrong v_after v_calls v_oneB v_twoB v_mrF) H := hP.sub [0, 1] rfl
                              have hDc : va_D A (wX12_quotient cI cB a_mo a_mem a_mks a_mr a_cnt a_wd a_one a_two a_mmade a_mrest a_old v_thrown v_mask v_key v_wait v_problem v_code v_length v_cond v_masks v_addr v_mwanted v_wrong v_after v_calls v_oneB v_twoB v_mrF) := hD.sub [0, 1] (by decide) rfl
                              have hFc := va_free (wc := (wX12_quotient cI cB a_mo a_mem a_mks a_mr a_cnt a_wd a_one a_two a_mmade a_mrest a_old v_thrown v_mask v_key v_wait v_problem v_code v_length v_cond v_masks v_addr v_mwanted v_wrong v_after v_calls v_oneB v_twoB v_mrF)) hD hS hA [0, 1] rfl
                              refine va_callv (va_runV (As := [.int x1, .int x2]) (rest := []) ⟨hx, hb, hml, hown, hts⟩ (kX12_quotient l D cI cB a_mo a_mem a_mks a_mr a_cnt a_wd a_one a_two a_mmade a_mrest a_old H.size v_thrown v_mask v_key v_wait v_problem v_code v_length v_cond v_masks v_addr v_mwanted v_wrong v_after v_calls v_oneB v_twoB v_mrF x1 x2 (by first | with_reducible assumption | decide | (unfold vp_in; decide)) (by first | with_reducible assumption | decide | (unfold vp_in; decide))) (cwV 2 hts (gd_V wd_883 wd_884 wd_885 wd_807 wd_867) rfl rfl rfl hdX12_quotient ⟨Nat.le_of_ble_eq_true rfl, Nat.le_of_ble_eq_true rfl⟩) (preV_std (ci := 12) (q0 := 0) hPc hK hDc hNW rfl rfl) rfl rfl hl.1 rfl (lv_room (Nat.le_of_ble_eq_true rfl)) dX12_reckon_372 ⟨Nat.zero_le _, Nat.zero_le _⟩) hS (fun q _ h => hFc q h) hFc (fun u_372 t9 H1 locs ht9 hvm9 hw9 hB9 hz9 hk9 hS => ?_)
                              have eu_372 : u_372 = fX12_quotient x1 x2 v_wrong v_mrF := hw9
                              obtain ⟨hP, hD⟩ := back_std (w1 := (wX12_quotient cI cB a_mo a_mem a_mks a_mr a_cnt a_wd a_one a_two a_mmade a_mrest a_old v_thrown v_mask v_key v_wait v_problem v_code v_length v_cond v_masks v_addr v_mwanted u_372.1 v_after v_calls v_oneB v_twoB u_372.2)) (w2 := (wX12_reckon cI cB a_mo a_mem a_mks a_mr a_cnt a_wd a_one a_two a_mmade a_mrest a_old v_thrown v_mask v_key v_wait v_problem v_code v_length v_cond v_masks v_addr v_mwanted u_372.1 v_after v_calls v_oneB v_twoB u_372.2)) (wr := []) hP hD [0, 1] [] [0, 1] rfl rfl (by decide) (by decide) hk9 hFc hB9 ht9 (by decide) rfl
                              clear hB9 hk9 hz9 hvm9 ht9 hFc hPc hDc
                              generalize H1 = H at hP hS ⊢
                              refine lv_goto (tgt := 458) hx hb dX12_reckon_375 (by decide) ?_
                              have hf9 : (v_cond, u_372.1, v_after, u_372.2) = fX12_reckon x0 x1 x2 v_cond v_masks v_wrong v_after v_mrF := by subst ex_6; simp only [fX12_reckon, ← eu_372]; (try simp only [if_neg c_9_0, if_neg c_9_1, if_neg c_9_2, if_neg c_9_3, if_neg c_9_4, if_neg c_9_5, if_neg c_9_6, if_neg c_9_7, if_neg c_9_8, if_neg c_9_9, if_neg c_9_10, if_neg c_9_11, if_neg c_9_12, if_pos c_9_13])
                              exact W.vret hx hb hr (fun t9 ht9 hW9 => ⟨⟨(v_cond, u_372.1, v_after, u_372.2), rfl, hf9, ⟨by rw [ht9]; exact hP, va_K.moved hW9.alike hK, hD⟩⟩, hS.F ht9⟩) hS.2.2 dX12_reckon_458
                            · skip
                              refine sw_def (tgt := 378) hx hb [0, 1, 2, 3, 4, 5, 6, 7, 8, 9, 10, 11, 12, 13] dX12_reckon_9 (by decide) (by decide) ?_ (by decide) ?_
                              · intro v hv he
                                simp only [List.mem_cons, List.not_mem_nil, or_false] at hv
                                have hx9 : x0 = Int32.ofInt v := by rw [← he, Int32.ofInt_toInt]
                                revert hx9
                                rcases hv with rfl | rfl | rfl | rfl | rfl | rfl | rfl | rfl | rfl | rfl | rfl | rfl | rfl | rfl <;> intro hx9 <;> first | exact c_9_0 (by rw [hx9]; decide) | exact c_9_1 (by rw [hx9]; decide) | exact c_9_2 (by rw [hx9]; decide) | exact c_9_3 (by rw [hx9]; decide) | exact c_9_4 (by rw [hx9]; decide) | exact c_9_5 (by rw [hx9]; decide) | exact c_9_6 (by rw [hx9]; decide) | exact c_9_7 (by rw [hx9]; decide) | exact c_9_8 (by rw [hx9]; decide) | exact c_9_9 (by rw [hx9]; decide) | exact c_9_10 (by rw [hx9]; decide) | exact c_9_11 (by rw [hx9]; decide) | exact c_9_12 (by rw [hx9]; decide) | exact c_9_13 (by rw [hx9]; decide)
                              · skip
                                refine lv_iload_n hx hb dX12_reckon_378 rfl (lv_at hl 2 rfl) ?_
                                refine lv_bipush (v := 14) hx hb dX12_reckon_379 (by decide) ?_
                                have J_411 : ∀ (m_411 : Int64), m_411 = (if x0 = 14 then (let r_386 := fX12_plain x_6; let r_390 := fX12_plain x2; (r_386 + r_390)) else (let r_399 := fX12_plain x_6; let r_405 := fX12_plain (x2 ^^^ (-1)); ((r_399 + r_405) + 1))) → ∀ (H : Heap) (locs : List Loc), va_P D vwCl (wX12_reckon cI cB a_mo a_mem a_mks a_mr a_cnt a_wd a_one a_two a_mmade a_mrest a_old v_thrown v_mask v_key v_wait v_problem v_code v_length v_cond v_masks v_addr v_mwanted v_wrong v_after v_calls v_oneB v_twoB v_mrF) H → va_D A (wX12_reckon cI cB a_mo a_mem a_mks a_mr a_cnt a_wd a_one a_two a_mmade a_mrest a_old v_thrown v_mask v_key v_wait v_problem v_code v_length v_cond v_masks v_addr v_mwanted v_wrong v_after v_calls v_oneB v_twoB v_mrF) → va_S A s.heap H locs → ∀ (ls : Array Slot), lv_has ls 7 [(0, .ref a_mo), (1, .int x0), (2, .int x1), (3, .int x2), (4, .int x_6)] → W p l e rmX12_reckon s m ([.ref a_mo, .int x0, .int x1, .int x2] : List Value).toArray below meth c H locs 0 0 (MQ below (qX12_reckon D cI cB a_mo a_mem a_mks a_mr a_cnt a_wd a_one a_two a_mmade a_mrest a_old v_thrown v_mask v_key v_wait v_problem v_code v_length v_cond v_masks v_addr v_mwanted v_wrong v_after v_calls v_oneB v_twoB v_mrF x0 x1 x2 A) ([.ref a_mo, .int x0, .int x1, .int x2] : List Value).toArray s 0 0 A) (F0 m 411 ls [.long m_411]) := by
                                  intro m_411 em_411 H locs hP hD hS ls hl
                                  try dsimp only at em_411
                                  refine lv_lstore (lv' := [(5, .long m_411), (0, .ref a_mo), (1, .int x0), (2, .int x1), (3, .int x2), (4, .int x_6)]) hx hb dX12_reckon_411 hl (by decide) rfl (fun ls hl => ?_)
                                  refine lv_aload_n hx hb dX12_reckon_413 rfl (lv_at hl 1 rfl) ?_
                                  refine va_get (D := D) (ci := 12) (v := .ref a_mr) (C := RX12) (T := TX12) (N := 26) hx hb hts in_X12 hown hK hP 0 rfl rfl 3 (by decide) q_0 (fun _ h9 => h9) rfl dX12_reckon_414 ?_
                                  refine lv_iload_n hx hb dX12_reckon_417 rfl (lv_at hl 3 rfl) ?_
                                  refine lv_lload hx hb dX12_reckon_418 (lv_at hl 0 rfl) ?_
                                  refine lv_l2i hx hb dX12_reckon_420 rfl ?_
                                  refine va_iast hx hb hK hP hD hS 1 0 rfl rfl (by first | with_reducible assumption | exact vin_of (b := 16) (by decide) (by with_reducible assumption) (by with_reducible assumption) | exact vin_of (b := 16) (by decide) (Int32.not_lt.mp (by with_reducible assumption)) (by with_reducible assumption) | exact vin_dn (by decide) (by with_reducible assumption) hI9) dX12_reckon_421 (fun H locs hP hD hS => ?_)
                                  obtain ⟨f_421, ef_421⟩ : ∃ z : Nat → Int32, z = upd v_mrF (x1 : Int32).toNatClampNeg ((m_411 : Int64).toInt32) := ⟨_, rfl⟩
                                  have hP : va_P D vwCl (wX12_reckon cI cB a_mo a_mem a_mks a_mr a_cnt a_wd a_one a_two a_mmade a_mrest a_old v_thrown v_mask v_key v_wait v_problem v_code v_length v_cond v_masks v_addr v_mwanted v_wrong v_after v_calls v_oneB v_twoB (upd v_mrF (x1 : Int32).toNatClampNeg ((m_411 : Int64).toInt32))) H := hP
                                  have hD : va_D A (wX12_reckon cI cB a_mo a_mem a_mks a_mr a_cnt a_wd a_one a_two a_mmade a_mrest a_old v_thrown v_mask v_key v_wait v_problem v_code v_length v_cond v_masks v_addr v_mwanted v_wrong v_after v_calls v_oneB v_twoB (upd v_mrF (x1 : Int32).toNatClampNeg ((m_411 : Int64).toInt32))) := hD
                                  rw [← ef_421] at hP hD
                                  refine lv_aload_n hx hb dX12_reckon_422 rfl (lv_at hl 1 rfl) ?_
                                  refine lv_aload_n hx hb dX12_reckon_423 rfl (lv_at hl 1 rfl) ?_
                                  refine va_get (D := D) (ci := 12) (v := .ref a_mr) (C := RX12) (T := TX12) (N := 26) hx hb hts in_X12 hown hK hP 0 rfl rfl 3 (by decide) q_0 (fun _ h9 => h9) rfl dX12_reckon_424 ?_
                                  refine lv_iload_n hx hb dX12_reckon_427 rfl (lv_at hl 3 rfl) ?_
                                  refine va_iald hx hb hK hP 1 0 rfl rfl (by first | with_reducible assumption | exact vin_of (b := 16) (by decide) (by with_reducible assumption) (by with_reducible assumption) | exact vin_of (b := 16) (by decide) (Int32.not_lt.mp (by with_reducible assumption)) (by with_reducible assumption) | exact vin_dn (by decide) (by with_reducible assumption) hI9) dX12_reckon_428 ?_
                                  have J_437 : ∀ (m_437 : Int32), m_437 = (if (f_421 (x1 : Int32).toNatClampNeg) = 0 then (0) else (1)) → ∀ (H : Heap) (locs : List Loc), va_P D vwCl (wX12_reckon cI cB a_mo a_mem a_mks a_mr a_cnt a_wd a_one a_two a_mmade a_mrest a_old v_thrown v_mask v_key v_wait v_problem v_code v_length v_cond v_masks v_addr v_mwanted v_wrong v_after v_calls v_oneB v_twoB f_421) H → va_D A (wX12_reckon cI cB a_mo a_mem a_mks a_mr a_cnt a_wd a_one a_two a_mmade a_mrest a_old v_thrown v_mask v_key v_wait v_problem v_code v_length v_cond v_masks v_addr v_mwanted v_wrong v_after v_calls v_oneB v_twoB f_421) → va_S A s.heap H locs → ∀ (ls : Array Slot), lv_has ls 7 [(0, .ref a_mo), (1, .int x0), (2, .int x1), (3, .int x2), (4, .int x_6), (5, .long m_411)] → W p l e rmX12_reckon s m ([.ref a_mo, .int x0, .int x1, .int x2] : List Value).toArray below meth c H locs 0 0 (MQ below (qX12_reckon D cI cB a_mo a_mem a_mks a_mr a_cnt a_wd a_one a_two a_mmade a_mrest a_old v_thrown v_mask v_key v_wait v_problem v_code v_length v_cond v_masks v_addr v_mwanted v_wrong v_after v_calls v_oneB v_twoB v_mrF x0 x1 x2 A) ([.ref a_mo, .int x0, .int x1, .int x2] : List Value).toArray s 0 0 A) (F0 m 437 ls [.int m_437, .ref a_mo]) := by
                                    intro m_437 em_437 H locs hP hD hS ls hl
                                    try dsimp only at em_437
                                    have zm_437_0 : m_437 = 0 ∨ m_437 = 1 := by rw [em_437]; (try dsimp only); (repeat' split) <;> first | exact Or.inl rfl | exact Or.inr rfl
                                    refine lv_lload hx hb dX12_reckon_437 (lv_at hl 5 rfl) ?_
                                    refine lv_ldc2 (v := 4294967295) hx hb hown q_3 dX12_reckon_439 ?_
                                    refine W.lcmp hx hb dX12_reckon_442 ?_
                                    have J_451 : ∀ (m_451 : Int32), m_451 = (if (lg_cmp (m_411) (4294967295)) ≤ 0 then (0) else (2)) → ∀ (H : Heap) (locs : List Loc), va_P D vwCl (wX12_reckon cI cB a_mo a_mem a_mks a_mr a_cnt a_wd a_one a_two a_mmade a_mrest a_old v_thrown v_mask v_key v_wait v_problem v_code v_length v_cond v_masks v_addr v_mwanted v_wrong v_after v_calls v_oneB v_twoB f_421) H → va_D A (wX12_reckon cI cB a_mo a_mem a_mks a_mr a_cnt a_wd a_one a_two a_mmade a_mrest a_old v_thrown v_mask v_key v_wait v_problem v_code v_length v_cond v_masks v_addr v_mwanted v_wrong v_after v_calls v_oneB v_twoB f_421) → va_S A s.heap H locs → ∀ (ls : Array Slot), lv_has ls 7 [(0, .ref a_mo), (1, .int x0), (2, .int x1), (3, .int x2), (4, .int x_6), (5, .long m_411)] → W p l e rmX12_reckon s m ([.ref a_mo, .int x0, .int x1, .int x2] : List Value).toArray below meth c H locs 0 0 (MQ below (qX12_reckon D cI cB a_mo a_mem a_mks a_mr a_cnt a_wd a_one a_two a_mmade a_mrest a_old v_thrown v_mask v_key v_wait v_problem v_code v_length v_cond v_masks v_addr v_mwanted v_wrong v_after v_calls v_oneB v_twoB v_mrF x0 x1 x2 A) ([.ref a_mo, .int x0, .int x1, .int x2] : List Value).toArray s 0 0 A) (F0 m 451 ls [.int m_451, .int m_437, .ref a_mo]) := by
                                      intro m_451 em_451 H locs hP hD hS ls hl
                                      try dsimp only at em_451
                                      refine lv_iadd hx hb dX12_reckon_451 ?_
                                      refine lv_topi (fun x_452 ex_452 => ?_)
                                      refine va_put (D := D) (ci := 12) (v := .int x_452) (ty := .int) (C := RX12) (T := TX12) (N := 26) hx hb hts in_X12 tyX12 tyX12_ok nmX12 hown hK hP hD hS 0 rfl rfl 10 (by decide) q_2 (fun _ h9 => h9) rfl (by decide +kernel) rfl rfl (Nat.le_of_ble_eq_true rfl) dX12_reckon_452 (fun H locs hP hD hS => ?_)
                                      have hP : va_P D vwCl (wX12_reckon cI cB a_mo a_mem a_mks a_mr a_cnt a_wd a_one a_two a_mmade a_mrest a_old v_thrown v_mask v_key v_wait v_problem v_code v_length x_452 v_masks v_addr v_mwanted v_wrong v_after v_calls v_oneB v_twoB f_421) H := hP
                                      have hD : va_D A (wX12_reckon cI cB a_mo a_mem a_mks a_mr a_cnt a_wd a_one a_two a_mmade a_mrest a_old v_thrown v_mask v_key v_wait v_problem v_code v_length x_452 v_masks v_addr v_mwanted v_wrong v_after v_calls v_oneB v_twoB f_421) := hD
                                      refine lv_goto (tgt := 458) hx hb dX12_reckon_455 (by decide) ?_
                                      have hf9 : (x_452, v_wrong, v_after, f_421) = fX12_reckon x0 x1 x2 v_cond v_masks v_wrong v_after v_mrF := by subst ex_452; subst ef_421; subst ex_6; simp only [fX12_reckon, ← em_411, ← em_437, ← em_451]; (try simp only [if_neg c_9_0, if_neg c_9_1, if_neg c_9_2, if_neg c_9_3, if_neg c_9_4, if_neg c_9_5, if_neg c_9_6, if_neg c_9_7, if_neg c_9_8, if_neg c_9_9, if_neg c_9_10, if_neg c_9_11, if_neg c_9_12, if_neg c_9_13])
                                      exact W.vret hx hb hr (fun t9 ht9 hW9 => ⟨⟨(x_452, v_wrong, v_after, f_421), rfl, hf9, ⟨by rw [ht9]; exact hP, va_K.moved hW9.alike hK, hD⟩⟩, hS.F ht9⟩) hS.2.2 dX12_reckon_458
                                    refine lv_if_le (tgt := 450) hx hb dX12_reckon_443 (by decide) (fun c_443 => ?_) (fun c_443 => ?_)
                                    · skip
                                      refine lv_iconst (v := 0) hx hb dX12_reckon_450 (by decide) ?_
                                      exact J_451 0 (by (try simp only [if_pos c_443])) _ _ hP hD hS ls (lv_sub hl [0, 1, 2, 3, 4, 5] rfl)
                                    · skip
                                      refine lv_iconst (v := 2) hx hb dX12_reckon_446 (by decide) ?_
                                      refine lv_goto (tgt := 451) hx hb dX12_reckon_447 (by decide) ?_
                                      exact J_451 2 (by (try simp only [if_neg c_443])) _ _ hP hD hS ls (lv_sub hl [0, 1, 2, 3, 4, 5] rfl)
                                  refine lv_if_ne (tgt := 436) hx hb dX12_reckon_429 (by decide) (fun c_429 => ?_) (fun c_429 => ?_)
                                  · skip
                                    refine lv_iconst (v := 1) hx hb dX12_reckon_436 (by decide) ?_
                                    exact J_437 1 (by (try simp only [if_neg c_429])) _ _ hP hD hS ls (lv_sub hl [1, 2, 3, 4, 5, 0] rfl)
                                  · skip
                                    refine lv_iconst (v := 0) hx hb dX12_reckon_432 (by decide) ?_
                                    refine lv_goto (tgt := 437) hx hb dX12_reckon_433 (by decide) ?_
                                    exact J_437 0 (by (try simp only [if_pos c_429])) _ _ hP hD hS ls (lv_sub hl [1, 2, 3, 4, 5, 0] rfl)
                                refine lv_icmp_ne (tgt := 397) hx hb dX12_reckon_381 (by decide) (fun c_381 => ?_) (fun c_381 => ?_)
                                · skip
                                  refine lv_iload hx hb dX12_reckon_397 (lv_at hl 0 rfl) ?_
                                  have hPc : va_P D vwCl (wX12_plain cI cB  ) H := hP.sub [] rfl
                                  have hDc : va_D A (wX12_plain cI cB  ) := hD.sub [] (by decide) rfl
                                  have hFc := va_free (wc := (wX12_plain cI cB  )) hD hS hA [] rfl
                                  refine va_calll (va_runS (As := [.int x_6]) (rest := []) ⟨hx, hb, hml, hown, hts⟩ (kX12_plain l D cI cB  H.size  x_6) (va_cwS 1 hts (gd_S wd_865 wd_866 wd_807 wd_846) rfl rfl rfl hdX12_plain.2 ⟨Nat.le_of_ble_eq_true rfl, Nat.le_of_ble_eq_true rfl⟩) (preS_std hPc hK hDc hNW) rfl rfl hl.1 rfl (lv_room (Nat.le_of_ble_eq_true rfl)) dX12_reckon_399 ⟨Nat.zero_le _, Nat.zero_le _⟩) hS (fun q _ h => hFc q h) hFc (fun r_399 u_399 t9 H1 locs ht9 hvm9 hw9 hB9 hz9 hk9 hS => ?_)
                                  have er_399 : r_399 = fX12_plain x_6 := hw9
                                  obtain ⟨hP, hD⟩ := back_std (w1 := (wX12_plain cI cB  )) (w2 := (wX12_reckon cI cB a_mo a_mem a_mks a_mr a_cnt a_wd a_one a_two a_mmade a_mrest a_old v_thrown v_mask v_key v_wait v_problem v_code v_length v_cond v_masks v_addr v_mwanted v_wrong v_after v_calls v_oneB v_twoB v_mrF)) (wr := [(a_mo, .inr (12, [.int v_thrown, .ref a_mem, .ref a_mks, .ref a_mr, .int v_mask, .int v_key, .int v_wait, .int v_problem, .int v_code, .int v_length, .int v_cond, .int v_masks, .int v_addr, .int v_mwanted, .ref a_cnt, .ref a_wd, .int v_wrong, .int v_after, .int v_calls, .ref a_one, .int v_oneB, .ref a_two, .int v_twoB, .ref a_mmade, .ref a_mrest, .ref a_old])), (a_mr, .inl (cI, 16, .inl v_mrF))]) hP hD [] [0, 1] [0, 1] rfl rfl (by decide) (by decide) hk9 hFc hB9 ht9 (by decide) rfl
                                  clear hB9 hk9 hz9 hvm9 ht9 hFc hPc hDc
                                  generalize H1 = H at hP hS ⊢
                                  refine lv_iload_n hx hb dX12_reckon_402 rfl (lv_at hl 4 rfl) ?_
                                  refine lv_iconst (v := (-1)) hx hb dX12_reckon_403 (by decide) ?_
                                  refine lv_ixor hx hb dX12_reckon_404 ?_
                                  have hPc : va_P D vwCl (wX12_plain cI cB  ) H := hP.sub [] rfl
                                  have hDc : va_D A (wX12_plain cI cB  ) := hD.sub [] (by decide) rfl
                                  have hFc := va_free (wc := (wX12_plain cI cB  )) hD hS hA [] rfl
                                  refine va_calll (va_runS (As := [.int ((x2 ^^^ (-1)))]) (rest := [.long r_399]) ⟨hx, hb, hml, hown, hts⟩ (kX12_plain l D cI cB  H.size  (x2 ^^^ (-1))) (va_cwS 1 hts (gd_S wd_865 wd_866 wd_807 wd_846) rfl rfl rfl hdX12_plain.2 ⟨Nat.le_of_ble_eq_true rfl, Nat.le_of_ble_eq_true rfl⟩) (preS_std hPc hK hDc hNW) rfl rfl hl.1 rfl (lv_room (Nat.le_of_ble_eq_true rfl)) dX12_reckon_405 ⟨Nat.zero_le _, Nat.zero_le _⟩) hS (fun q _ h => hFc q h) hFc (fun r_405 u_405 t9 H1 locs ht9 hvm9 hw9 hB9 hz9 hk9 hS => ?_)
                                  have er_405 : r_405 = fX12_plain (x2 ^^^ (-1)) := hw9
                                  obtain ⟨hP, hD⟩ := back_std (w1 := (wX12_plain cI cB  )) (w2 := (wX12_reckon cI cB a_mo a_mem a_mks a_mr a_cnt a_wd a_one a_two a_mmade a_mrest a_old v_thrown v_mask v_key v_wait v_problem v_code v_length v_cond v_masks v_addr v_mwanted v_wrong v_after v_calls v_oneB v_twoB v_mrF)) (wr := [(a_mo, .inr (12, [.int v_thrown, .ref a_mem, .ref a_mks, .ref a_mr, .int v_mask, .int v_key, .int v_wait, .int v_problem, .int v_code, .int v_length, .int v_cond, .int v_masks, .int v_addr, .int v_mwanted, .ref a_cnt, .ref a_wd, .int v_wrong, .int v_after, .int v_calls, .ref a_one, .int v_oneB, .ref a_two, .int v_twoB, .ref a_mmade, .ref a_mrest, .ref a_old])), (a_mr, .inl (cI, 16, .inl v_mrF))]) hP hD [] [0, 1] [0, 1] rfl rfl (by decide) (by decide) hk9 hFc hB9 ht9 (by decide) rfl
                                  clear hB9 hk9 hz9 hvm9 ht9 hFc hPc hDc
                                  generalize H1 = H at hP hS ⊢
                                  refine lv_ladd hx hb dX12_reckon_408 ?_
                                  refine lv_lconst (v := 1) hx hb dX12_reckon_409 (by decide) ?_
                                  refine lv_ladd hx hb dX12_reckon_410 ?_
                                  exact J_411 ((r_399 + r_405) + 1) (by (try simp only [← er_399, ← er_405]); (try simp only [if_neg c_381])) _ _ hP hD hS ls (lv_sub hl [1, 2, 3, 4, 0] rfl)
                                · skip
                                  refine lv_iload hx hb dX12_reckon_384 (lv_at hl 0 rfl) ?_
                                  have hPc : va_P D vwCl (wX12_plain cI cB  ) H := hP.sub [] rfl
                                  have hDc : va_D A (wX12_plain cI cB  ) := hD.sub [] (by decide) rfl
                                  have hFc := va_free (wc := (wX12_plain cI cB  )) hD hS hA [] rfl
                                  refine va_calll (va_runS (As := [.int x_6]) (rest := []) ⟨hx, hb, hml, hown, hts⟩ (kX12_plain l D cI cB  H.size  x_6) (va_cwS 1 hts (gd_S wd_865 wd_866 wd_807 wd_846) rfl rfl rfl hdX12_plain.2 ⟨Nat.le_of_ble_eq_true rfl, Nat.le_of_ble_eq_true rfl⟩) (preS_std hPc hK hDc hNW) rfl rfl hl.1 rfl (lv_room (Nat.le_of_ble_eq_true rfl)) dX12_reckon_386 ⟨Nat.zero_le _, Nat.zero_le _⟩) hS (fun q _ h => hFc q h) hFc (fun r_386 u_386 t9 H1 locs ht9 hvm9 hw9 hB9 hz9 hk9 hS => ?_)
                                  have er_386 : r_386 = fX12_plain x_6 := hw9
                                  obtain ⟨hP, hD⟩ := back_std (w1 := (wX12_plain cI cB  )) (w2 := (wX12_reckon cI cB a_mo a_mem a_mks a_mr a_cnt a_wd a_one a_two a_mmade a_mrest a_old v_thrown v_mask v_key v_wait v_problem v_code v_length v_cond v_masks v_addr v_mwanted v_wrong v_after v_calls v_oneB v_twoB v_mrF)) (wr := [(a_mo, .inr (12, [.int v_thrown, .ref a_mem, .ref a_mks, .ref a_mr, .int v_mask, .int v_key, .int v_wait, .int v_problem, .int v_code, .int v_length, .int v_cond, .int v_masks, .int v_addr, .int v_mwanted, .ref a_cnt, .ref a_wd, .int v_wrong, .int v_after, .int v_calls, .ref a_one, .int v_oneB, .ref a_two, .int v_twoB, .ref a_mmade, .ref a_mrest, .ref a_old])), (a_mr, .inl (cI, 16, .inl v_mrF))]) hP hD [] [0, 1] [0, 1] rfl rfl (by decide) (by decide) hk9 hFc hB9 ht9 (by decide) rfl
                                  clear hB9 hk9 hz9 hvm9 ht9 hFc hPc hDc
                                  generalize H1 = H at hP hS ⊢
                                  refine lv_iload_n hx hb dX12_reckon_389 rfl (lv_at hl 4 rfl) ?_
                                  have hPc : va_P D vwCl (wX12_plain cI cB  ) H := hP.sub [] rfl
                                  have hDc : va_D A (wX12_plain cI cB  ) := hD.sub [] (by decide) rfl
                                  have hFc := va_free (wc := (wX12_plain cI cB  )) hD hS hA [] rfl
                                  refine va_calll (va_runS (As := [.int x2]) (rest := [.long r_386]) ⟨hx, hb, hml, hown, hts⟩ (kX12_plain l D cI cB  H.size  x2) (va_cwS 1 hts (gd_S wd_865 wd_866 wd_807 wd_846) rfl rfl rfl hdX12_plain.2 ⟨Nat.le_of_ble_eq_true rfl, Nat.le_of_ble_eq_true rfl⟩) (preS_std hPc hK hDc hNW) rfl rfl hl.1 rfl (lv_room (Nat.le_of_ble_eq_true rfl)) dX12_reckon_390 ⟨Nat.zero_le _, Nat.zero_le _⟩) hS (fun q _ h => hFc q h) hFc (fun r_390 u_390 t9 H1 locs ht9 hvm9 hw9 hB9 hz9 hk9 hS => ?_)
                                  have er_390 : r_390 = fX12_plain x2 := hw9
                                  obtain ⟨hP, hD⟩ := back_std (w1 := (wX12_plain cI cB  )) (w2 := (wX12_reckon cI cB a_mo a_mem a_mks a_mr a_cnt a_wd a_one a_two a_mmade a_mrest a_old v_thrown v_mask v_key v_wait v_problem v_code v_length v_cond v_masks v_addr v_mwanted v_wrong v_after v_calls v_oneB v_twoB v_mrF)) (wr := [(a_mo, .inr (12, [.int v_thrown, .ref a_mem, .ref a_mks, .ref a_mr, .int v_mask, .int v_key, .int v_wait, .int v_problem, .int v_code, .int v_length, .int v_cond, .int v_masks, .int v_addr, .int v_mwanted, .ref a_cnt, .ref a_wd, .int v_wrong, .int v_after, .int v_calls, .ref a_one, .int v_oneB, .ref a_two, .int v_twoB, .ref a_mmade, .ref a_mrest, .ref a_old])), (a_mr, .inl (cI, 16, .inl v_mrF))]) hP hD [] [0, 1] [0, 1] rfl rfl (by decide) (by decide) hk9 hFc hB9 ht9 (by decide) rfl
                                  clear hB9 hk9 hz9 hvm9 ht9 hFc hPc hDc
                                  generalize H1 = H at hP hS ⊢
                                  refine lv_ladd hx hb dX12_reckon_393 ?_
                                  refine lv_goto (tgt := 411) hx hb dX12_reckon_394 (by decide) ?_
                                  exact J_411 (r_386 + r_390) (by (try simp only [← er_386, ← er_390]); (try simp only [if_pos c_381])) _ _ hP hD hS ls (lv_sub hl [1, 2, 3, 4, 0] rfl)
theorem hdX12_reckon : yX12_reckon.cls = RX12 ∧ yX12_reckon.cls ≠ "java/lang/invoke/MethodHandle" ∧ yX12_reckon.cls ≠ "java/lang/invoke/VarHandle" ∧ (parseMethodDescriptor yX12_reckon.desc).map (fun d => d.parameters.length) = some 3 := by decide +kernel
noncomputable def fX12_operand (x0 : Int32) (x1 : Int32) (v_key : Int32) (v_wrong : Int32) (v_mF : (Nat → Int32)) (v_mkF : (Nat → Int32)) : (Int32 × Int32) :=
  let u_4 := fX12_look x0 x1 0 v_key v_wrong v_mkF
  let u_10 := fX12_even x0 x1 u_4
  if u_10 ≤ 0 then (let r_25 := fX12_fetch x0 x1 v_mF; let x_29 := (r_25 : Int64).toInt32; if x1 = 2 then (((x_29 : Int32).toInt16.toInt32, u_10)) else ((x_29, u_10))) else ((0, u_10))
abbrev wX12_operand (cI cB : ClassId) (a_mo a_mem a_mks a_mr a_cnt a_wd a_one a_two a_mmade a_mrest a_old : Nat) (v_thrown : Int32) (v_mask : Int32) (v_key : Int32) (v_wait : Int32) (v_problem : Int32) (v_code : Int32) (v_length : Int32) (v_cond : Int32) (v_masks : Int32) (v_addr : Int32) (v_mwanted : Int32) (v_wrong : Int32) (v_after : Int32) (v_calls : Int32) (v_oneB : Int32) (v_twoB : Int32) (v_mF : (Nat → Int32)) (v_mkF : (Nat → Int32)) : va_W := [(a_mo, .inr (12, [.int v_thrown, .ref a_mem, .ref a_mks, .ref a_mr, .int v_mask, .int v_key, .int v_wait, .int v_problem, .int v_code, .int v_length, .int v_cond, .int v_masks, .int v_addr, .int v_mwanted, .ref a_cnt, .ref a_wd, .int v_wrong, .int v_after, .int v_calls, .ref a_one, .int v_oneB, .ref a_two, .int v_twoB, .ref a_mmade, .ref a_mrest, .ref a_old])), (a_mem, .inl (cI, 8192, .inl v_mF)), (a_mks, .inl (cI, 4, .inl v_mkF))]
abbrev rmX12_operand : Room := { frames := 2, cells := 0, slots := 0, locals := 48 }
abbrev qX12_operand (D : va_G) (cI cB : ClassId) (a_mo a_mem a_mks a_mr a_cnt a_wd a_one a_two a_mmade a_mrest a_old : Nat) (v_thrown : Int32) (v_mask : Int32) (v_key : Int32) (v_wait : Int32) (v_problem : Int32) (v_code : Int32) (v_length : Int32) (v_cond : Int32) (v_masks : Int32) (v_addr : Int32) (v_mwanted : Int32) (v_wrong : Int32) (v_after : Int32) (v_calls : Int32) (v_oneB : Int32) (v_twoB : Int32) (v_mF : (Nat → Int32)) (v_mkF : (Nat → Int32)) (x0 : Int32) (x1 : Int32) : (Nat → Prop) → Array Value → State → Outcome → State → Prop := fun A9 => va_Qi (fun (r9 : Int32) (u9 : Int32) => r9 = (fX12_operand x0 x1 v_key v_wrong v_mF v_mkF).1 ∧ u9 = (fX12_operand x0 x1 v_key v_wrong v_mF v_mkF).2) (fun u9 t9 => atW D (TYS cI cB) A9 (wX12_operand cI cB a_mo a_mem a_mks a_mr a_cnt a_wd a_one a_two a_mmade a_mrest a_old v_thrown v_mask v_key v_wait v_problem v_code v_length v_cond v_masks v_addr v_mwanted u9 v_after v_calls v_oneB v_twoB v_mF v_mkF) t9) A9
set_option maxHeartbeats 4000000 in
set_option maxRecDepth 100000 in
theorem kX12_operand (l : Launch) (D : va_G) (cI cB : ClassId) (a_mo a_mem a_mks a_mr a_cnt a_wd a_one a_two a_mmade a_mrest a_old : Nat) (sz : Nat) (v_thrown : Int32) (v_mask : Int32) (v_key : Int32) (v_wait : Int32) (v_problem : Int32) (v_code : Int32) (v_length : Int32) (v_cond : Int32) (v_masks : Int32) (v_addr : Int32) (v_mwanted : Int32) (v_wrong : Int32) (v_after : Int32) (v_calls : Int32) (v_oneB : Int32) (v_twoB : Int32) (v_mF : (Nat → Int32)) (v_mkF : (Nat → Int32)) (x0 : Int32) (x1 : Int32) (ha : in24 x0) (hn : x1 = 1 ∨ x1 = 2 ∨ x1 = 4 ∨ x1 = 8) (hw : 0 ≤ v_wrong) : MetW l yX12_operand (WK yX12_operand cX12_operand 4 (some .int)) rmX12_operand D (TYS cI cB) (wX12_operand cI cB a_mo a_mem a_mks a_mr a_cnt a_wd a_one a_two a_mmade a_mrest a_old v_thrown v_mask v_key v_wait v_problem v_code v_length v_cond v_masks v_addr v_mwanted v_wrong v_after v_calls v_oneB v_twoB v_mF v_mkF) sz [.ref a_mo, .int x0, .int x1] (qX12_operand D cI cB a_mo a_mem a_mks a_mr a_cnt a_wd a_one a_two a_mmade a_mrest a_old v_thrown v_mask v_key v_wait v_problem v_code v_length v_cond v_masks v_addr v_mwanted v_wrong v_after v_calls v_oneB v_twoB v_mF v_mkF x0 x1) 0 0 := by
  refine met_std (by decide) rfl (Nat.le_of_ble_eq_true rfl) ?_
  intro p e s m below meth c A ls H hx hb hr hml hown hts hlocks hA hP hK hD hS hNW hl
  have hl : lv_has ls 4 [(0, .ref a_mo), (1, .int x0), (2, .int x1)] := hl
  have q_0 := hts _ (List.mem_cons_of_mem _ wd_836)
  refine lv_aload_n hx hb dX12_operand_0 rfl (lv_at hl 0 rfl) ?_
  refine lv_iload_n hx hb dX12_operand_1 rfl (lv_at hl 1 rfl) ?_
  refine lv_iload_n hx hb dX12_operand_2 rfl (lv_at hl 2 rfl) ?_
  refine lv_iconst (v := 0) hx hb dX12_operand_3 (by decide) ?_
  have hPc : va_P D vwCl (wX12_look cI cB a_mo a_mem a_mks a_mr a_cnt a_wd a_one a_two a_mmade a_mrest a_old v_thrown v_mask v_key v_wait v_problem v_code v_length v_cond v_masks v_addr v_mwanted v_wrong v_after v_calls v_oneB v_twoB v_mkF) H := hP.sub [0, 2] rfl
  have hDc : va_D A (wX12_look cI cB a_mo a_mem a_mks a_mr a_cnt a_wd a_one a_two a_mmade a_mrest a_old v_thrown v_mask v_key v_wait v_problem v_code v_length v_cond v_masks v_addr v_mwanted v_wrong v_after v_calls v_oneB v_twoB v_mkF) := hD.sub [0, 2] (by decide) rfl
  have hFc := va_free (wc := (wX12_look cI cB a_mo a_mem a_mks a_mr a_cnt a_wd a_one a_two a_mmade a_mrest a_old v_thrown v_mask v_key v_wait v_problem v_code v_length v_cond v_masks v_addr v_mwanted v_wrong v_after v_calls v_oneB v_twoB v_mkF)) hD hS hA [0, 2] rfl
  refine va_callv (va_runV (As := [.int x0, .int x1, .int 0]) (rest := []) ⟨hx, hb, hml, hown, hts⟩ (kX12_look l D cI cB a_mo a_mem a_mks a_mr a_cnt a_wd a_one a_two a_mmade a_mrest a_old H.size v_thrown v_mask v_key v_wait v_problem v_code v_length v_cond v_masks v_addr v_mwanted v_wrong v_after v_calls v_oneB v_twoB v_mkF x0 x1 0) (cwV 3 hts (gd_V wd_857 wd_858 wd_859 wd_807 wd_837) rfl rfl rfl hdX12_look ⟨Nat.le_of_ble_eq_true rfl, Nat.le_of_ble_eq_true rfl⟩) (preV_std (ci := 12) (q0 := 0) hPc hK hDc hNW rfl rfl) rfl rfl hl.1 rfl (lv_room (Nat.le_of_ble_eq_true rfl)) dX12_operand_4 ⟨Nat.zero_le _, Nat.zero_le _⟩) hS (fun q _ h => hFc q h) hFc (fun u_4 t9 H1 locs ht9 hvm9 hw9 hB9 hz9 hk9 hS => ?_)
  have eu_4 : u_4 = fX12_look x0 x1 0 v_key v_wrong v_mkF := hw9
  obtain ⟨hP, hD⟩ := back_std (w1 := (wX12_look cI cB a_mo a_mem a_mks a_mr a_cnt a_wd a_one a_two a_mmade a_mrest a_old v_thrown v_mask v_key v_wait v_problem v_code v_length v_cond v_masks v_addr v_mwanted u_4 v_after v_calls v_oneB v_twoB v_mkF)) (w2 := (wX12_operand cI cB a_mo a_mem a_mks a_mr a_cnt a_wd a_one a_two a_mmade a_mrest a_old v_thrown v_mask v_key v_wait v_problem v_code v_length v_cond v_masks v_addr v_mwanted u_4 v_after v_calls v_oneB v_twoB v_mF v_mkF)) (wr := [(a_mem, .inl (cI, 8192, .inl v_mF))]) hP hD [0, 2] [1] [1, 0, 2] rfl rfl (by decide) (by decide) hk9 hFc hB9 ht9 (by decide) rfl
  clear hB9 hk9 hz9 hvm9 ht9 hFc hPc hDc
  generalize H1 = H at hP hS ⊢
  refine lv_aload_n hx hb dX12_operand_7 rfl (lv_at hl 0 rfl) ?_
  refine lv_iload_n hx hb dX12_operand_8 rfl (lv_at hl 1 rfl) ?_
  refine lv_iload_n hx hb dX12_operand_9 rfl (lv_at hl 2 rfl) ?_
  have hPc : va_P D vwCl (wX12_even cI cB a_mo a_mem a_mks a_mr a_cnt a_wd a_one a_two a_mmade a_mrest a_old v_thrown v_mask v_key v_wait v_problem v_code v_length v_cond v_masks v_addr v_mwanted u_4 v_after v_calls v_oneB v_twoB) H := hP.sub [0] rfl
  have hDc : va_D A (wX12_even cI cB a_mo a_mem a_mks a_mr a_cnt a_wd a_one a_two a_mmade a_mrest a_old v_thrown v_mask v_key v_wait v_problem v_code v_length v_cond v_masks v_addr v_mwanted u_4 v_after v_calls v_oneB v_twoB) := hD.sub [0] (by decide) rfl
  have hFc := va_free (wc := (wX12_even cI cB a_mo a_mem a_mks a_mr a_cnt a_wd a_one a_two a_mmade a_mrest a_old v_thrown v_mask v_key v_wait v_problem v_code v_length v_cond v_masks v_addr v_mwanted u_4 v_after v_calls v_oneB v_twoB)) hD hS hA [0] rfl
  refine va_callv (va_runV (As := [.int x0, .int x1]) (rest := []) ⟨hx, hb, hml, hown, hts⟩ (kX12_even l D cI cB a_mo a_mem a_mks a_mr a_cnt a_wd a_one a_two a_mmade a_mrest a_old H.size v_thrown v_mask v_key v_wait v_problem v_code v_length v_cond v_masks v_addr v_mwanted u_4 v_after v_calls v_oneB v_twoB x0 x1 (n1_ne hn)) (cwV 2 hts (gd_V wd_860 wd_861 wd_862 wd_807 wd_841) rfl rfl rfl hdX12_even ⟨Nat.le_of_ble_eq_true rfl, Nat.le_of_ble_eq_true rfl⟩) (preV_std (ci := 12) (q0 := 0) hPc hK hDc hNW rfl rfl) rfl rfl hl.1 rfl (lv_room (Nat.le_of_ble_eq_true rfl)) dX12_operand_10 ⟨Nat.zero_le _, Nat.zero_le _⟩) hS (fun q _ h => hFc q h) hFc (fun u_10 t9 H1 locs ht9 hvm9 hw9 hB9 hz9 hk9 hS => ?_)
  have eu_10 : u_10 = fX12_even x0 x1 u_4 := hw9
  obtain ⟨hP, hD⟩ := back_std (w1 := (wX12_even cI cB a_mo a_mem a_mks a_mr a_cnt a_wd a_one a_two a_mmade a_mrest a_old v_thrown v_mask v_key v_wait v_problem v_code v_length v_cond v_masks v_addr v_mwanted u_10 v_after v_calls v_oneB v_twoB)) (w2 := (wX12_operand cI cB a_mo a_mem a_mks a_mr a_cnt a_wd a_one a_two a_mmade a_mrest a_old v_thrown v_mask v_key v_wait v_problem v_code v_length v_cond v_masks v_addr v_mwanted u_10 v_after v_calls v_oneB v_twoB v_mF v_mkF)) (wr := [(a_mem, .inl (cI, 8192, .inl v_mF)), (a_mks, .inl (cI, 4, .inl v_mkF))]) hP hD [0] [1, 2] [2, 0, 1] rfl rfl (by decide) (by decide) hk9 hFc hB9 ht9 (by decide) rfl
  clear hB9 hk9 hz9 hvm9 ht9 hFc hPc hDc
  generalize H1 = H at hP hS ⊢
  refine lv_aload_n hx hb dX12_operand_13 rfl (lv_at hl 0 rfl) ?_
  refine va_get (D := D) (ci := 12) (v := .int u_10) (C := RX12) (T := TX12) (N := 26) hx hb hts in_X12 hown hK hP 0 rfl rfl 16 (by decide) q_0 (fun _ h9 => h9) rfl dX12_operand_14 ?_
  refine lv_if_le (tgt := 22) hx hb dX12_operand_17 (by decide) (fun c_17 => ?_) (fun c_17 => ?_)
  · skip
    refine lv_aload_n hx hb dX12_operand_22 rfl (lv_at hl 0 rfl) ?_
    refine lv_iload_n hx hb dX12_operand_23 rfl (lv_at hl 1 rfl) ?_
    refine lv_iload_n hx hb dX12_operand_24 rfl (lv_at hl 2 rfl) ?_
    have hPc : va_P D vwCl (wX12_fetch cI cB a_mo a_mem a_mks a_mr a_cnt a_wd a_one a_two a_mmade a_mrest a_old v_thrown v_mask v_key v_wait v_problem v_code v_length v_cond v_masks v_addr v_mwanted u_10 v_after v_calls v_oneB v_twoB v_mF) H := hP.sub [0, 1] rfl
    have hDc : va_D A (wX12_fetch cI cB a_mo a_mem a_mks a_mr a_cnt a_wd a_one a_two a_mmade a_mrest a_old v_thrown v_mask v_key v_wait v_problem v_code v_length v_cond v_masks v_addr v_mwanted u_10 v_after v_calls v_oneB v_twoB v_mF) := hD.sub [0, 1] (by decide) rfl
    have hFc := va_free (wc := (wX12_fetch cI cB a_mo a_mem a_mks a_mr a_cnt a_wd a_one a_two a_mmade a_mrest a_old v_thrown v_mask v_key v_wait v_problem v_code v_length v_cond v_masks v_addr v_mwanted u_10 v_after v_calls v_oneB v_twoB v_mF)) hD hS hA [0, 1] rfl
    refine va_calll (va_runV (As := [.int x0, .int x1]) (rest := []) ⟨hx, hb, hml, hown, hts⟩ (kX12_fetch l D cI cB a_mo a_mem a_mks a_mr a_cnt a_wd a_one a_two a_mmade a_mrest a_old H.size v_thrown v_mask v_key v_wait v_problem v_code v_length v_cond v_masks v_addr v_mwanted u_10 v_after v_calls v_oneB v_twoB v_mF x0 x1 (op_in ha hn hw eu_4 eu_10 (nle_pos c_17))) (cwV 2 hts (gd_V wd_830 wd_831 wd_832 wd_807 wd_819) rfl rfl rfl hdX12_fetch ⟨Nat.le_of_ble_eq_true rfl, Nat.le_of_ble_eq_true rfl⟩) (preV_std (ci := 12) (q0 := 0) hPc hK hDc hNW rfl rfl) rfl rfl hl.1 rfl (lv_room (Nat.le_of_ble_eq_true rfl)) dX12_operand_25 ⟨Nat.zero_le _, Nat.zero_le _⟩) hS (fun q _ h => hFc q h) hFc (fun r_25 u_25 t9 H1 locs ht9 hvm9 hw9 hB9 hz9 hk9 hS => ?_)
    have er_25 : r_25 = fX12_fetch x0 x1 v_mF := hw9
    obtain ⟨hP, hD⟩ := back_std (w1 := (wX12_fetch cI cB a_mo a_mem a_mks a_mr a_cnt a_wd a_one a_two a_mmade a_mrest a_old v_thrown v_mask v_key v_wait v_problem v_code v_length v_cond v_masks v_addr v_mwanted u_10 v_after v_calls v_oneB v_twoB v_mF)) (w2 := (wX12_operand cI cB a_mo a_mem a_mks a_mr a_cnt a_wd a_one a_two a_mmade a_mrest a_old v_thrown v_mask v_key v_wait v_problem v_code v_length v_cond v_masks v_addr v_mwanted u_10 v_after v_calls v_oneB v_twoB v_mF v_mkF)) (wr := [(a_mks, .inl (cI, 4, .inl v_mkF))]) hP hD [0, 1] [2] [1, 2, 0] rfl rfl (by decide) (by decide) hk9 hFc hB9 ht9 (by decide) rfl
    clear hB9 hk9 hz9 hvm9 ht9 hFc hPc hDc
    generalize H1 = H at hP hS ⊢
    refine lv_l2i hx hb dX12_operand_28 rfl ?_
    refine lv_topi (fun x_29 ex_29 => ?_)
    refine lv_istore_n (lv' := [(3, .int x_29), (0, .ref a_mo), (1, .int x0), (2, .int x1)]) hx hb dX12_operand_29 rfl hl (by decide) rfl (fun ls hl => ?_)
    refine lv_iload_n hx hb dX12_operand_30 rfl (lv_at hl 3 rfl) ?_
    refine lv_iconst (v := 2) hx hb dX12_operand_31 (by decide) ?_
    refine lv_icmp_ne (tgt := 40) hx hb dX12_operand_32 (by decide) (fun c_32 => ?_) (fun c_32 => ?_)
    · skip
      refine lv_iload_n hx hb dX12_operand_40 rfl (lv_at hl 0 rfl) ?_
      have hf9 : (x_29, u_10) = fX12_operand x0 x1 v_key v_wrong v_mF v_mkF := by subst ex_29; simp only [fX12_operand, ← eu_4, ← eu_10, ← er_25]; (try simp only [if_pos c_17, if_neg c_32])
      exact W.iret hx hb hr (fun t9 ht9 hW9 => ⟨⟨x_29, u_10, rfl, ⟨by rw [← hf9], by rw [← hf9]⟩, ⟨by rw [ht9]; exact hP, va_K.moved hW9.alike hK, hD⟩⟩, hS.F ht9⟩) hS.2.2 dX12_operand_41
    · skip
      refine lv_iload_n hx hb dX12_operand_35 rfl (lv_at hl 0 rfl) ?_
      refine lv_i2s hx hb dX12_operand_36 rfl ?_
      refine lv_goto (tgt := 41) hx hb dX12_operand_37 (by decide) ?_
      have hf9 : ((x_29 : Int32).toInt16.toInt32, u_10) = fX12_operand x0 x1 v_key v_wrong v_mF v_mkF := by subst ex_29; simp only [fX12_operand, ← eu_4, ← eu_10, ← er_25]; (try simp only [if_pos c_17, if_pos c_32])
      exact W.iret hx hb hr (fun t9 ht9 hW9 => ⟨⟨(x_29 : Int32).toInt16.toInt32, u_10, rfl, ⟨by rw [← hf9], by rw [← hf9]⟩, ⟨by rw [ht9]; exact hP, va_K.moved hW9.alike hK, hD⟩⟩, hS.F ht9⟩) hS.2.2 dX12_operand_41
  · skip
    refine lv_iconst (v := 0) hx hb dX12_operand_20 (by decide) ?_
    have hf9 : (0, u_10) = fX12_operand x0 x1 v_key v_wrong v_mF v_mkF := by simp only [fX12_operand, ← eu_4, ← eu_10]; (try simp only [if_neg c_17])
    exact W.iret hx hb hr (fun t9 ht9 hW9 => ⟨⟨0, u_10, rfl, ⟨by rw [← hf9], by rw [← hf9]⟩, ⟨by rw [ht9]; exact hP, va_K.moved hW9.alike hK, hD⟩⟩, hS.F ht9⟩) hS.2.2 dX12_operand_21
theorem hdX12_operand : yX12_operand.cls = RX12 ∧ yX12_operand.cls ≠ "java/lang/invoke/MethodHandle" ∧ yX12_operand.cls ≠ "java/lang/invoke/VarHandle" ∧ (parseMethodDescriptor yX12_operand.desc).map (fun d => d.parameters.length) = some 2 := by decide +kernel
noncomputable def fX12_toMemory (x0 : Int32) (x1 : Int32) (x2 : Int32) (v_key : Int32) (v_wrong : Int32) (v_mF : (Nat → Int32)) (v_mkF : (Nat → Int32)) : (Int32 × (Nat → Int32)) :=
  let u_4 := fX12_look x0 x2 1 v_key v_wrong v_mkF
  let u_10 := fX12_even x0 x2 u_4
  if u_10 = 0 then (let u_25 := fX12_store x0 ((x1 : Int32).toInt64) x2 v_mF; (u_10, u_25)) else ((u_10, v_mF))
abbrev wX12_toMemory (cI cB : ClassId) (a_mo a_mem a_mks a_mr a_cnt a_wd a_one a_two a_mmade a_mrest a_old : Nat) (v_thrown : Int32) (v_mask : Int32) (v_key : Int32) (v_wait : Int32) (v_problem : Int32) (v_code : Int32) (v_length : Int32) (v_cond : Int32) (v_masks : Int32) (v_addr : Int32) (v_mwanted : Int32) (v_wrong : Int32) (v_after : Int32) (v_calls : Int32) (v_oneB : Int32) (v_twoB : Int32) (v_mF : (Nat → Int32)) (v_mkF : (Nat → Int32)) : va_W := [(a_mo, .inr (12, [.int v_thrown, .ref a_mem, .ref a_mks, .ref a_mr, .int v_mask, .int v_key, .int v_wait, .int v_problem, .int v_code, .int v_length, .int v_cond, .int v_masks, .int v_addr, .int v_mwanted, .ref a_cnt, .ref a_wd, .int v_wrong, .int v_after, .int v_calls, .ref a_one, .int v_oneB, .ref a_two, .int v_twoB, .ref a_mmade, .ref a_mrest, .ref a_old])), (a_mem, .inl (cI, 8192, .inl v_mF)), (a_mks, .inl (cI, 4, .inl v_mkF))]
abbrev rmX12_toMemory : Room := { frames := 2, cells := 0, slots := 0, locals := 48 }
abbrev qX12_toMemory (D : va_G) (cI cB : ClassId) (a_mo a_mem a_mks a_mr a_cnt a_wd a_one a_two a_mmade a_mrest a_old : Nat) (v_thrown : Int32) (v_mask : Int32) (v_key : Int32) (v_wait : Int32) (v_problem : Int32) (v_code : Int32) (v_length : Int32) (v_cond : Int32) (v_masks : Int32) (v_addr : Int32) (v_mwanted : Int32) (v_wrong : Int32) (v_after : Int32) (v_calls : Int32) (v_oneB : Int32) (v_twoB : Int32) (v_mF : (Nat → Int32)) (v_mkF : (Nat → Int32)) (x0 : Int32) (x1 : Int32) (x2 : Int32) : (Nat → Prop) → Array Value → State → Outcome → State → Prop := fun A9 => va_Qv (fun (u9 : (Int32 × (Nat → Int32))) => u9 = fX12_toMemory x0 x1 x2 v_key v_wrong v_mF v_mkF) (fun u9 t9 => atW D (TYS cI cB) A9 (wX12_toMemory cI cB a_mo a_mem a_mks a_mr a_cnt a_wd a_one a_two a_mmade a_mrest a_old v_thrown v_mask v_key v_wait v_problem v_code v_length v_cond v_masks v_addr v_mwanted u9.1 v_after v_calls v_oneB v_twoB u9.2 v_mkF) t9) A9
set_option maxHeartbeats 4000000 in
set_option maxRecDepth 100000 in
theorem kX12_toMemory (l : Launch) (D : va_G) (cI cB : ClassId) (a_mo a_mem a_mks a_mr a_cnt a_wd a_one a_two a_mmade a_mrest a_old : Nat) (sz : Nat) (v_thrown : Int32) (v_mask : Int32) (v_key : Int32) (v_wait : Int32) (v_problem : Int32) (v_code : Int32) (v_length : Int32) (v_cond : Int32) (v_masks : Int32) (v_addr : Int32) (v_mwanted : Int32) (v_wrong : Int32) (v_after : Int32) (v_calls : Int32) (v_oneB : Int32) (v_twoB : Int32) (v_mF : (Nat → Int32)) (v_mkF : (Nat → Int32)) (x0 : Int32) (x1 : Int32) (x2 : Int32) (ha : in24 x0) (hn : x2 = 1 ∨ x2 = 2 ∨ x2 = 4 ∨ x2 = 8) (hw : 0 ≤ v_wrong) : MetW l yX12_toMemory (WK yX12_toMemory cX12_toMemory 4 none) rmX12_toMemory D (TYS cI cB) (wX12_toMemory cI cB a_mo a_mem a_mks a_mr a_cnt a_wd a_one a_two a_mmade a_mrest a_old v_thrown v_mask v_key v_wait v_problem v_code v_length v_cond v_masks v_addr v_mwanted v_wrong v_after v_calls v_oneB v_twoB v_mF v_mkF) sz [.ref a_mo, .int x0, .int x1, .int x2] (qX12_toMemory D cI cB a_mo a_mem a_mks a_mr a_cnt a_wd a_one a_two a_mmade a_mrest a_old v_thrown v_mask v_key v_wait v_problem v_code v_length v_cond v_masks v_addr v_mwanted v_wrong v_after v_calls v_oneB v_twoB v_mF v_mkF x0 x1 x2) 0 0 := by
  refine met_std (by decide) rfl (Nat.le_of_ble_eq_true rfl) ?_
  intro p e s m below meth c A ls H hx hb hr hml hown hts hlocks hA hP hK hD hS hNW hl
  have hl : lv_has ls 4 [(0, .ref a_mo), (1, .int x0), (2, .int x1), (3, .int x2)] := hl
  have q_0 := hts _ (List.mem_cons_of_mem _ wd_836)
  refine lv_aload_n hx hb dX12_toMemory_0 rfl (lv_at hl 0 rfl) ?_
  refine lv_iload_n hx hb dX12_toMemory_1 rfl (lv_at hl 1 rfl) ?_
  refine lv_iload_n hx hb dX12_toMemory_2 rfl (lv_at hl 3 rfl) ?_
  refine lv_iconst (v := 1) hx hb dX12_toMemory_3 (by decide) ?_
  have hPc : va_P D vwCl (wX12_look cI cB a_mo a_mem a_mks a_mr a_cnt a_wd a_one a_two a_mmade a_mrest a_old v_thrown v_mask v_key v_wait v_problem v_code v_length v_cond v_masks v_addr v_mwanted v_wrong v_after v_calls v_oneB v_twoB v_mkF) H := hP.sub [0, 2] rfl
  have hDc : va_D A (wX12_look cI cB a_mo a_mem a_mks a_mr a_cnt a_wd a_one a_two a_mmade a_mrest a_old v_thrown v_mask v_key v_wait v_problem v_code v_length v_cond v_masks v_addr v_mwanted v_wrong v_after v_calls v_oneB v_twoB v_mkF) := hD.sub [0, 2] (by decide) rfl
  have hFc := va_free (wc := (wX12_look cI cB a_mo a_mem a_mks a_mr a_cnt a_wd a_one a_two a_mmade a_mrest a_old v_thrown v_mask v_key v_wait v_problem v_code v_length v_cond v_masks v_addr v_mwanted v_wrong v_after v_calls v_oneB v_twoB v_mkF)) hD hS hA [0, 2] rfl
  refine va_callv (va_runV (As := [.int x0, .int x2, .int 1]) (rest := []) ⟨hx, hb, hml, hown, hts⟩ (kX12_look l D cI cB a_mo a_mem a_mks a_mr a_cnt a_wd a_one a_two a_mmade a_mrest a_old H.size v_thrown v_mask v_key v_wait v_problem v_code v_length v_cond v_masks v_addr v_mwanted v_wrong v_after v_calls v_oneB v_twoB v_mkF x0 x2 1) (cwV 3 hts (gd_V wd_857 wd_858 wd_859 wd_807 wd_837) rfl rfl rfl hdX12_look ⟨Nat.le_of_ble_eq_true rfl, Nat.le_of_ble_eq_true rfl⟩) (preV_std (ci := 12) (q0 := 0) hPc hK hDc hNW rfl rfl) rfl rfl hl.1 rfl (lv_room (Nat.le_of_ble_eq_true rfl)) dX12_toMemory_4 ⟨Nat.zero_le _, Nat.zero_le _⟩) hS (fun q _ h => hFc q h) hFc (fun u_4 t9 H1 locs ht9 hvm9 hw9 hB9 hz9 hk9 hS => ?_)
  have eu_4 : u_4 = fX12_look x0 x2 1 v_key v_wrong v_mkF := hw9
  obtain ⟨hP, hD⟩ := back_std (w1 := (wX12_look cI cB a_mo a_mem a_mks a_mr a_cnt a_wd a_one a_two a_mmade a_mrest a_old v_thrown v_mask v_key v_wait v_problem v_code v_length v_cond v_masks v_addr v_mwanted u_4 v_after v_calls v_oneB v_twoB v_mkF)) (w2 := (wX12_toMemory cI cB a_mo a_mem a_mks a_mr a_cnt a_wd a_one a_two a_mmade a_mrest a_old v_thrown v_mask v_key v_wait v_problem v_code v_length v_cond v_masks v_addr v_mwanted u_4 v_after v_calls v_oneB v_twoB v_mF v_mkF)) (wr := [(a_mem, .inl (cI, 8192, .inl v_mF))]) hP hD [0, 2] [1] [1, 0, 2] rfl rfl (by decide) (by decide) hk9 hFc hB9 ht9 (by decide) rfl
  clear hB9 hk9 hz9 hvm9 ht9 hFc hPc hDc
  generalize H1 = H at hP hS ⊢
  refine lv_aload_n hx hb dX12_toMemory_7 rfl (lv_at hl 0 rfl) ?_
  refine lv_iload_n hx hb dX12_toMemory_8 rfl (lv_at hl 1 rfl) ?_
  refine lv_iload_n hx hb dX12_toMemory_9 rfl (lv_at hl 3 rfl) ?_
  have hPc : va_P D vwCl (wX12_even cI cB a_mo a_mem a_mks a_mr a_cnt a_wd a_one a_two a_mmade a_mrest a_old v_thrown v_mask v_key v_wait v_problem v_code v_length v_cond v_masks v_addr v_mwanted u_4 v_after v_calls v_oneB v_twoB) H := hP.sub [0] rfl
  have hDc : va_D A (wX12_even cI cB a_mo a_mem a_mks a_mr a_cnt a_wd a_one a_two a_mmade a_mrest a_old v_thrown v_mask v_key v_wait v_problem v_code v_length v_cond v_masks v_addr v_mwanted u_4 v_after v_calls v_oneB v_twoB) := hD.sub [0] (by decide) rfl
  have hFc := va_free (wc := (wX12_even cI cB a_mo a_mem a_mks a_mr a_cnt a_wd a_one a_two a_mmade a_mrest a_old v_thrown v_mask v_key v_wait v_problem v_code v_length v_cond v_masks v_addr v_mwanted u_4 v_after v_calls v_oneB v_twoB)) hD hS hA [0] rfl
  refine va_callv (va_runV (As := [.int x0, .int x2]) (rest := []) ⟨hx, hb, hml, hown, hts⟩ (kX12_even l D cI cB a_mo a_mem a_mks a_mr a_cnt a_wd a_one a_two a_mmade a_mrest a_old H.size v_thrown v_mask v_key v_wait v_problem v_code v_length v_cond v_masks v_addr v_mwanted u_4 v_after v_calls v_oneB v_twoB x0 x2 (n1_ne hn)) (cwV 2 hts (gd_V wd_860 wd_861 wd_862 wd_807 wd_841) rfl rfl rfl hdX12_even ⟨Nat.le_of_ble_eq_true rfl, Nat.le_of_ble_eq_true rfl⟩) (preV_std (ci := 12) (q0 := 0) hPc hK hDc hNW rfl rfl) rfl rfl hl.1 rfl (lv_room (Nat.le_of_ble_eq_true rfl)) dX12_toMemory_10 ⟨Nat.zero_le _, Nat.zero_le _⟩) hS (fun q _ h => hFc q h) hFc (fun u_10 t9 H1 locs ht9 hvm9 hw9 hB9 hz9 hk9 hS => ?_)
  have eu_10 : u_10 = fX12_even x0 x2 u_4 := hw9
  obtain ⟨hP, hD⟩ := back_std (w1 := (wX12_even cI cB a_mo a_mem a_mks a_mr a_cnt a_wd a_one a_two a_mmade a_mrest a_old v_thrown v_mask v_key v_wait v_problem v_code v_length v_cond v_masks v_addr v_mwanted u_10 v_after v_calls v_oneB v_twoB)) (w2 := (wX12_toMemory cI cB a_mo a_mem a_mks a_mr a_cnt a_wd a_one a_two a_mmade a_mrest a_old v_thrown v_mask v_key v_wait v_problem v_code v_length v_cond v_masks v_addr v_mwanted u_10 v_after v_calls v_oneB v_twoB v_mF v_mkF)) (wr := [(a_mem, .inl (cI, 8192, .inl v_mF)), (a_mks, .inl (cI, 4, .inl v_mkF))]) hP hD [0] [1, 2] [2, 0, 1] rfl rfl (by decide) (by decide) hk9 hFc hB9 ht9 (by decide) rfl
  clear hB9 hk9 hz9 hvm9 ht9 hFc hPc hDc
  generalize H1 = H at hP hS ⊢
  refine lv_aload_n hx hb dX12_toMemory_13 rfl (lv_at hl 0 rfl) ?_
  refine va_get (D := D) (ci := 12) (v := .int u_10) (C := RX12) (T := TX12) (N := 26) hx hb hts in_X12 hown hK hP 0 rfl rfl 16 (by decide) q_0 (fun _ h9 => h9) rfl dX12_toMemory_14 ?_
  refine lv_if_ne (tgt := 28) hx hb dX12_toMemory_17 (by decide) (fun c_17 => ?_) (fun c_17 => ?_)
  · skip
    have hf9 : (u_10, v_mF) = fX12_toMemory x0 x1 x2 v_key v_wrong v_mF v_mkF := by simp only [fX12_toMemory, ← eu_4, ← eu_10]; (try simp only [if_neg c_17])
    exact W.vret hx hb hr (fun t9 ht9 hW9 => ⟨⟨(u_10, v_mF), rfl, hf9, ⟨by rw [ht9]; exact hP, va_K.moved hW9.alike hK, hD⟩⟩, hS.F ht9⟩) hS.2.2 dX12_toMemory_28
  · skip
    refine lv_aload_n hx hb dX12_toMemory_20 rfl (lv_at hl 0 rfl) ?_
    refine lv_iload_n hx hb dX12_toMemory_21 rfl (lv_at hl 1 rfl) ?_
    refine lv_iload_n hx hb dX12_toMemory_22 rfl (lv_at hl 2 rfl) ?_
    refine lv_i2l hx hb dX12_toMemory_23 rfl ?_
    refine lv_iload_n hx hb dX12_toMemory_24 rfl (lv_at hl 3 rfl) ?_
    have hPc : va_P D vwCl (wX12_store cI cB a_mo a_mem a_mks a_mr a_cnt a_wd a_one a_two a_mmade a_mrest a_old v_thrown v_mask v_key v_wait v_problem v_code v_length v_cond v_masks v_addr v_mwanted u_10 v_after v_calls v_oneB v_twoB v_mF) H := hP.sub [0, 1] rfl
    have hDc : va_D A (wX12_store cI cB a_mo a_mem a_mks a_mr a_cnt a_wd a_one a_two a_mmade a_mrest a_old v_thrown v_mask v_key v_wait v_problem v_code v_length v_cond v_masks v_addr v_mwanted u_10 v_after v_calls v_oneB v_twoB v_mF) := hD.sub [0, 1] (by decide) rfl
    have hFc := va_free (wc := (wX12_store cI cB a_mo a_mem a_mks a_mr a_cnt a_wd a_one a_two a_mmade a_mrest a_old v_thrown v_mask v_key v_wait v_problem v_code v_length v_cond v_masks v_addr v_mwanted u_10 v_after v_calls v_oneB v_twoB v_mF)) hD hS hA [0, 1] rfl
    refine va_callv (va_runV (As := [.int x0, .long (x1 : Int32).toInt64, .int x2]) (rest := []) ⟨hx, hb, hml, hown, hts⟩ (kX12_store l D cI cB a_mo a_mem a_mks a_mr a_cnt a_wd a_one a_two a_mmade a_mrest a_old H.size v_thrown v_mask v_key v_wait v_problem v_code v_length v_cond v_masks v_addr v_mwanted u_10 v_after v_calls v_oneB v_twoB v_mF x0 ((x1 : Int32).toInt64) x2 (op_in ha hn hw eu_4 eu_10 (eq0_np c_17))) (cwV 3 hts (gd_V wd_826 wd_827 wd_828 wd_807 wd_820) rfl rfl rfl hdX12_store ⟨Nat.le_of_ble_eq_true rfl, Nat.le_of_ble_eq_true rfl⟩) (preV_std (ci := 12) (q0 := 0) hPc hK hDc hNW rfl rfl) rfl rfl hl.1 rfl (lv_room (Nat.le_of_ble_eq_true rfl)) dX12_toMemory_25 ⟨Nat.zero_le _, Nat.zero_le _⟩) hS (fun q _ h => hFc q h) hFc (fun u_25 t9 H1 locs ht9 hvm9 hw9 hB9 hz9 hk9 hS => ?_)
    have eu_25 : u_25 = fX12_store x0 ((x1 : Int32).toInt64) x2 v_mF := hw9
    obtain ⟨hP, hD⟩ := back_std (w1 := (wX12_store cI cB a_mo a_mem a_mks a_mr a_cnt a_wd a_one a_two a_mmade a_mrest a_old v_thrown v_mask v_key v_wait v_problem v_code v_length v_cond v_masks v_addr v_mwanted u_10 v_after v_calls v_oneB v_twoB u_25)) (w2 := (wX12_toMemory cI cB a_mo a_mem a_mks a_mr a_cnt a_wd a_one a_two a_mmade a_mrest a_old v_thrown v_mask v_key v_wait v_problem v_code v_length v_cond v_masks v_addr v_mwanted u_10 v_after v_calls v_oneB v_twoB u_25 v_mkF)) (wr := [(a_mks, .inl (cI, 4, .inl v_mkF))]) hP hD [0, 1] [2] [1, 2, 0] rfl rfl (by decide) (by decide) hk9 hFc hB9 ht9 (by decide) rfl
    clear hB9 hk9 hz9 hvm9 ht9 hFc hPc hDc
    generalize H1 = H at hP hS ⊢
    have hf9 : (u_10, u_25) = fX12_toMemory x0 x1 x2 v_key v_wrong v_mF v_mkF := by simp only [fX12_toMemory, ← eu_4, ← eu_10, ← eu_25]; (try simp only [if_pos c_17])
    exact W.vret hx hb hr (fun t9 ht9 hW9 => ⟨⟨(u_10, u_25), rfl, hf9, ⟨by rw [ht9]; exact hP, va_K.moved hW9.alike hK, hD⟩⟩, hS.F ht9⟩) hS.2.2 dX12_toMemory_28
theorem hdX12_toMemory : yX12_toMemory.cls = RX12 ∧ yX12_toMemory.cls ≠ "java/lang/invoke/MethodHandle" ∧ yX12_toMemory.cls ≠ "java/lang/invoke/VarHandle" ∧ (parseMethodDescriptor yX12_toMemory.desc).map (fun d => d.parameters.length) = some 3 := by decide +kernel
noncomputable def fX12_keyOfBlock (x0 : Int32) (x1 : Int32) (x2 : Int32) (v_problem : Int32) (v_wrong : Int32) (v_mkF : (Nat → Int32)) (v_mrF : (Nat → Int32)) : (Int32 × (Nat → Int32) × (Nat → Int32)) :=
  let u_1 := fX12_supervisor v_problem v_wrong
  let x_13 := ((v_mrF (x1 : Int32).toNatClampNeg) &&& 16777215)
  let m_28 : Int32 := (if x_13 < 8192 then (u_1) else (let u_25 := fX12_meet 5 u_1; u_25))
  let m_46 : Int32 := (if ((v_mrF (x1 : Int32).toNatClampNeg) &&& 15) = 0 then (m_28) else (let u_43 := fX12_meet 6 m_28; u_43))
  if m_46 ≤ 0 then (if x2 = 0 then (let f_110 := upd v_mrF (x0 : Int32).toNatClampNeg ((((v_mrF (x0 : Int32).toNatClampNeg) &&& (-256 : Int32)) ||| ((v_mkF ((x_13 >>> (11 &&& 31)) : Int32).toNatClampNeg) <<< (3 &&& 31)))); (m_46, v_mkF, f_110)) else (let f_78 := upd v_mkF ((x_13 >>> (11 &&& 31)) : Int32).toNatClampNeg ((((v_mrF (x0 : Int32).toNatClampNeg) >>> (3 &&& 31)) &&& 31)); (m_46, f_78, v_mrF))) else ((m_46, v_mkF, v_mrF))
abbrev wX12_keyOfBlock (cI cB : ClassId) (a_mo a_mem a_mks a_mr a_cnt a_wd a_one a_two a_mmade a_mrest a_old : Nat) (v_thrown : Int32) (v_mask : Int32) (v_key : Int32) (v_wait : Int32) (v_problem : Int32) (v_code : Int32) (v_length : Int32) (v_cond : Int32) (v_masks : Int32) (v_addr : Int32) (v_mwanted : Int32) (v_wrong : Int32) (v_after : Int32) (v_calls : Int32) (v_oneB : Int32) (v_twoB : Int32) (v_mkF : (Nat → Int32)) (v_mrF : (Nat → Int32)) : va_W := [(a_mo, .inr (12, [.int v_thrown, .ref a_mem, .ref a_mks, .ref a_mr, .int v_mask, .int v_key, .int v_wait, .int v_problem, .int v_code, .int v_length, .int v_cond, .int v_masks, .int v_addr, .int v_mwanted, .ref a_cnt, .ref a_wd, .int v_wrong, .int v_after, .int v_calls, .ref a_one, .int v_oneB, .ref a_two, .int v_twoB, .ref a_mmade, .ref a_mrest, .ref a_old])), (a_mks, .inl (cI, 4, .inl v_mkF)), (a_mr, .inl (cI, 16, .inl v_mrF))]
abbrev rmX12_keyOfBlock : Room := { frames := 2, cells := 0, slots := 0, locals := 41 }
abbrev qX12_keyOfBlock (D : va_G) (cI cB : ClassId) (a_mo a_mem a_mks a_mr a_cnt a_wd a_one a_two a_mmade a_mrest a_old : Nat) (v_thrown : Int32) (v_mask : Int32) (v_key : Int32) (v_wait : Int32) (v_problem : Int32) (v_code : Int32) (v_length : Int32) (v_cond : Int32) (v_masks : Int32) (v_addr : Int32) (v_mwanted : Int32) (v_wrong : Int32) (v_after : Int32) (v_calls : Int32) (v_oneB : Int32) (v_twoB : Int32) (v_mkF : (Nat → Int32)) (v_mrF : (Nat → Int32)) (x0 : Int32) (x1 : Int32) (x2 : Int32) : (Nat → Prop) → Array Value → State → Outcome → State → Prop := fun A9 => va_Qv (fun (u9 : (Int32 × (Nat → Int32) × (Nat → Int32))) => u9 = fX12_keyOfBlock x0 x1 x2 v_problem v_wrong v_mkF v_mrF) (fun u9 t9 => atW D (TYS cI cB) A9 (wX12_keyOfBlock cI cB a_mo a_mem a_mks a_mr a_cnt a_wd a_one a_two a_mmade a_mrest a_old v_thrown v_mask v_key v_wait v_problem v_code v_length v_cond v_masks v_addr v_mwanted u9.1 v_after v_calls v_oneB v_twoB u9.2.1 u9.2.2) t9) A9
set_option maxHeartbeats 4000000 in
set_option maxRecDepth 100000 in
theorem kX12_keyOfBlock (l : Launch) (D : va_G) (cI cB : ClassId) (a_mo a_mem a_mks a_mr a_cnt a_wd a_one a_two a_mmade a_mrest a_old : Nat) (sz : Nat) (v_thrown : Int32) (v_mask : Int32) (v_key : Int32) (v_wait : Int32) (v_problem : Int32) (v_code : Int32) (v_length : Int32) (v_cond : Int32) (v_masks : Int32) (v_addr : Int32) (v_mwanted : Int32) (v_wrong : Int32) (v_after : Int32) (v_calls : Int32) (v_oneB : Int32) (v_twoB : Int32) (v_mkF : (Nat → Int32)) (v_mrF : (Nat → Int32)) (x0 : Int32) (x1 : Int32) (x2 : Int32) (hk : vp_in x0 16) (hs : vp_in x1 16) (hw : 0 ≤ v_wrong) : MetW l yX12_keyOfBlock (WK yX12_keyOfBlock cX12_keyOfBlock 5 none) rmX12_keyOfBlock D (TYS cI cB) (wX12_keyOfBlock cI cB a_mo a_mem a_mks a_mr a_cnt a_wd a_one a_two a_mmade a_mrest a_old v_thrown v_mask v_key v_wait v_problem v_code v_length v_cond v_masks v_addr v_mwanted v_wrong v_after v_calls v_oneB v_twoB v_mkF v_mrF) sz [.ref a_mo, .int x0, .int x1, .int x2] (qX12_keyOfBlock D cI cB a_mo a_mem a_mks a_mr a_cnt a_wd a_one a_two a_mmade a_mrest a_old v_thrown v_mask v_key v_wait v_problem v_code v_length v_cond v_masks v_addr v_mwanted v_wrong v_after v_calls v_oneB v_twoB v_mkF v_mrF x0 x1 x2) 0 0 := by
  refine met_std (by decide) rfl (Nat.le_of_ble_eq_true rfl) ?_
  intro p e s m below meth c A ls H hx hb hr hml hown hts hlocks hA hP hK hD hS hNW hl
  have hl : lv_has ls 5 [(0, .ref a_mo), (1, .int x0), (2, .int x1), (3, .int x2)] := hl
  have q_0 := hts _ (List.mem_cons_of_mem _ wd_779)
  have q_1 := hts _ (List.mem_cons_of_mem _ wd_810)
  have q_2 := hts _ (List.mem_cons_of_mem _ wd_836)
  have q_3 := hts _ (List.mem_cons_of_mem _ wd_778)
  refine lv_aload_n hx hb dX12_keyOfBlock_0 rfl (lv_at hl 0 rfl) ?_
  have hPc : va_P D vwCl (wX12_supervisor cI cB a_mo a_mem a_mks a_mr a_cnt a_wd a_one a_two a_mmade a_mrest a_old v_thrown v_mask v_key v_wait v_problem v_code v_length v_cond v_masks v_addr v_mwanted v_wrong v_after v_calls v_oneB v_twoB) H := hP.sub [0] rfl
  have hDc : va_D A (wX12_supervisor cI cB a_mo a_mem a_mks a_mr a_cnt a_wd a_one a_two a_mmade a_mrest a_old v_thrown v_mask v_key v_wait v_problem v_code v_length v_cond v_masks v_addr v_mwanted v_wrong v_after v_calls v_oneB v_twoB) := hD.sub [0] (by decide) rfl
  have hFc := va_free (wc := (wX12_supervisor cI cB a_mo a_mem a_mks a_mr a_cnt a_wd a_one a_two a_mmade a_mrest a_old v_thrown v_mask v_key v_wait v_problem v_code v_length v_cond v_masks v_addr v_mwanted v_wrong v_after v_calls v_oneB v_twoB)) hD hS hA [0] rfl
  refine va_callv (va_runV (As := []) (rest := []) ⟨hx, hb, hml, hown, hts⟩ (kX12_supervisor l D cI cB a_mo a_mem a_mks a_mr a_cnt a_wd a_one a_two a_mmade a_mrest a_old H.size v_thrown v_mask v_key v_wait v_problem v_code v_length v_cond v_masks v_addr v_mwanted v_wrong v_after v_calls v_oneB v_twoB ) (cwV 0 hts (gd_V wd_913 wd_914 wd_915 wd_807 wd_842) rfl rfl rfl hdX12_supervisor ⟨Nat.le_of_ble_eq_true rfl, Nat.le_of_ble_eq_true rfl⟩) (preV_std (ci := 12) (q0 := 0) hPc hK hDc hNW rfl rfl) rfl rfl hl.1 rfl (lv_room (Nat.le_of_ble_eq_true rfl)) dX12_keyOfBlock_1 ⟨Nat.zero_le _, Nat.zero_le _⟩) hS (fun q _ h => hFc q h) hFc (fun u_1 t9 H1 locs ht9 hvm9 hw9 hB9 hz9 hk9 hS => ?_)
  have eu_1 : u_1 = fX12_supervisor v_problem v_wrong := hw9
  obtain ⟨hP, hD⟩ := back_std (w1 := (wX12_supervisor cI cB a_mo a_mem a_mks a_mr a_cnt a_wd a_one a_two a_mmade a_mrest a_old v_thrown v_mask v_key v_wait v_problem v_code v_length v_cond v_masks v_addr v_mwanted u_1 v_after v_calls v_oneB v_twoB)) (w2 := (wX12_keyOfBlock cI cB a_mo a_mem a_mks a_mr a_cnt a_wd a_one a_two a_mmade a_mrest a_old v_thrown v_mask v_key v_wait v_problem v_code v_length v_cond v_masks v_addr v_mwanted u_1 v_after v_calls v_oneB v_twoB v_mkF v_mrF)) (wr := [(a_mks, .inl (cI, 4, .inl v_mkF)), (a_mr, .inl (cI, 16, .inl v_mrF))]) hP hD [0] [1, 2] [2, 0, 1] rfl rfl (by decide) (by decide) hk9 hFc hB9 ht9 (by decide) rfl
  clear hB9 hk9 hz9 hvm9 ht9 hFc hPc hDc
  generalize H1 = H at hP hS ⊢
  refine lv_aload_n hx hb dX12_keyOfBlock_4 rfl (lv_at hl 0 rfl) ?_
  refine va_get (D := D) (ci := 12) (v := .ref a_mr) (C := RX12) (T := TX12) (N := 26) hx hb hts in_X12 hown hK hP 0 rfl rfl 3 (by decide) q_0 (fun _ h9 => h9) rfl dX12_keyOfBlock_5 ?_
  refine lv_iload_n hx hb dX12_keyOfBlock_8 rfl (lv_at hl 2 rfl) ?_
  refine va_iald hx hb hK hP 2 0 rfl rfl (by first | with_reducible assumption | exact vin_of (b := 16) (by decide) (by with_reducible assumption) (by with_reducible assumption) | exact vin_of (b := 16) (by decide) (Int32.not_lt.mp (by with_reducible assumption)) (by with_reducible assumption) | exact vin_dn (by decide) (by with_reducible assumption) hI9) dX12_keyOfBlock_9 ?_
  refine lv_ldc (v := 16777215) hx hb hown q_1 dX12_keyOfBlock_10 ?_
  refine lv_iand hx hb dX12_keyOfBlock_12 ?_
  refine lv_topi (fun x_13 ex_13 => ?_)
  refine lv_istore (lv' := [(4, .int x_13), (0, .ref a_mo), (1, .int x0), (2, .int x1), (3, .int x2)]) hx hb dX12_keyOfBlock_13 hl (by decide) rfl (fun ls hl => ?_)
  refine lv_iload hx hb dX12_keyOfBlock_15 (lv_at hl 0 rfl) ?_
  refine lv_sipush (v := 8192) hx hb dX12_keyOfBlock_17 (by decide) ?_
  have J_28 : ∀ (m_28 : Int32), m_28 = (if x_13 < 8192 then (u_1) else (let u_25 := fX12_meet 5 u_1; u_25)) → ∀ (H : Heap) (locs : List Loc), va_P D vwCl (wX12_keyOfBlock cI cB a_mo a_mem a_mks a_mr a_cnt a_wd a_one a_two a_mmade a_mrest a_old v_thrown v_mask v_key v_wait v_problem v_code v_length v_cond v_masks v_addr v_mwanted m_28 v_after v_calls v_oneB v_twoB v_mkF v_mrF) H → va_D A (wX12_keyOfBlock cI cB a_mo a_mem a_mks a_mr a_cnt a_wd a_one a_two a_mmade a_mrest a_old v_thrown v_mask v_key v_wait v_problem v_code v_length v_cond v_masks v_addr v_mwanted m_28 v_after v_calls v_oneB v_twoB v_mkF v_mrF) → va_S A s.heap H locs → ∀ (ls : Array Slot), lv_has ls 5 [(0, .ref a_mo), (1, .int x0), (2, .int x1), (3, .int x2), (4, .int x_13)] → W p l e rmX12_keyOfBlock s m ([.ref a_mo, .int x0, .int x1, .int x2] : List Value).toArray below meth c H locs 0 0 (MQ below (qX12_keyOfBlock D cI cB a_mo a_mem a_mks a_mr a_cnt a_wd a_one a_two a_mmade a_mrest a_old v_thrown v_mask v_key v_wait v_problem v_code v_length v_cond v_masks v_addr v_mwanted v_wrong v_after v_calls v_oneB v_twoB v_mkF v_mrF x0 x1 x2 A) ([.ref a_mo, .int x0, .int x1, .int x2] : List Value).toArray s 0 0 A) (F0 m 28 ls []) := by
    intro m_28 em_28 H locs hP hD hS ls hl
    try dsimp only at em_28
    refine lv_aload_n hx hb dX12_keyOfBlock_28 rfl (lv_at hl 0 rfl) ?_
    refine va_get (D := D) (ci := 12) (v := .ref a_mr) (C := RX12) (T := TX12) (N := 26) hx hb hts in_X12 hown hK hP 0 rfl rfl 3 (by decide) q_0 (fun _ h9 => h9) rfl dX12_keyOfBlock_29 ?_
    refine lv_iload_n hx hb dX12_keyOfBlock_32 rfl (lv_at hl 2 rfl) ?_
    refine va_iald hx hb hK hP 2 0 rfl rfl (by first | with_reducible assumption | exact vin_of (b := 16) (by decide) (by with_reducible assumption) (by with_reducible assumption) | exact vin_of (b := 16) (by decide) (Int32.not_lt.mp (by with_reducible assumption)) (by with_reducible assumption) | exact vin_dn (by decide) (by with_reducible assumption) hI9) dX12_keyOfBlock_33 ?_
    refine lv_bipush (v := 15) hx hb dX12_keyOfBlock_34 (by decide) ?_
    refine lv_iand hx hb dX12_keyOfBlock_36 ?_
    have J_46 : ∀ (m_46 : Int32), m_46 = (if ((v_mrF (x1 : Int32).toNatClampNeg) &&& 15) = 0 then (m_28) else (let u_43 := fX12_meet 6 m_28; u_43)) → ∀ (H : Heap) (locs : List Loc), va_P D vwCl (wX12_keyOfBlock cI cB a_mo a_mem a_mks a_mr a_cnt a_wd a_one a_two a_mmade a_mrest a_old v_thrown v_mask v_key v_wait v_problem v_code v_length v_cond v_masks v_addr v_mwanted m_46 v_after v_calls v_oneB v_twoB v_mkF v_mrF) H → va_D A (wX12_keyOfBlock cI cB a_mo a_mem a_mks a_mr a_cnt a_wd a_one a_two a_mmade a_mrest a_old v_thrown v_mask v_key v_wait v_problem v_code v_length v_cond v_masks v_addr v_mwanted m_46 v_after v_calls v_oneB v_twoB v_mkF v_mrF) → va_S A s.heap H locs → ∀ (ls : Array Slot), lv_has ls 5 [(0, .ref a_mo), (1, .int x0), (2, .int x1), (3, .int x2), (4, .int x_13)] → W p l e rmX12_keyOfBlock s m ([.ref a_mo, .int x0, .int x1, .int x2] : List Value).toArray below meth c H locs 0 0 (MQ below (qX12_keyOfBlock D cI cB a_mo a_mem a_mks a_mr a_cnt a_wd a_one a_two a_mmade a_mrest a_old v_thrown v_mask v_key v_wait v_problem v_code v_length v_cond v_masks v_addr v_mwanted v_wrong v_after v_calls v_oneB v_twoB v_mkF v_mrF x0 x1 x2 A) ([.ref a_mo, .int x0, .int x1, .int x2] : List Value).toArray s 0 0 A) (F0 m 46 ls []) := by
      intro m_46 em_46 H locs hP hD hS ls hl
      try dsimp only at em_46
      refine lv_aload_n hx hb dX12_keyOfBlock_46 rfl (lv_at hl 0 rfl) ?_
      refine va_get (D := D) (ci := 12) (v := .int m_46) (C := RX12) (T := TX12) (N := 26) hx hb hts in_X12 hown hK hP 0 rfl rfl 16 (by decide) q_2 (fun _ h9 => h9) rfl dX12_keyOfBlock_47 ?_
      refine lv_if_le (tgt := 54) hx hb dX12_keyOfBlock_50 (by decide) (fun c_50 => ?_) (fun c_50 => ?_)
      · skip
        refine lv_iload_n hx hb dX12_keyOfBlock_54 rfl (lv_at hl 3 rfl) ?_
        refine lv_if_eq (tgt := 82) hx hb dX12_keyOfBlock_55 (by decide) (fun c_55 => ?_) (fun c_55 => ?_)
        · skip
          refine lv_aload_n hx hb dX12_keyOfBlock_82 rfl (lv_at hl 0 rfl) ?_
          refine va_get (D := D) (ci := 12) (v := .ref a_mr) (C := RX12) (T := TX12) (N := 26) hx hb hts in_X12 hown hK hP 0 rfl rfl 3 (by decide) q_0 (fun _ h9 => h9) rfl dX12_keyOfBlock_83 ?_
          refine lv_iload_n hx hb dX12_keyOfBlock_86 rfl (lv_at hl 1 rfl) ?_
          refine lv_aload_n hx hb dX12_keyOfBlock_87 rfl (lv_at hl 0 rfl) ?_
          refine va_get (D := D) (ci := 12) (v := .ref a_mr) (C := RX12) (T := TX12) (N := 26) hx hb hts in_X12 hown hK hP 0 rfl rfl 3 (by decide) q_0 (fun _ h9 => h9) rfl dX12_keyOfBlock_88 ?_
          refine lv_iload_n hx hb dX12_keyOfBlock_91 rfl (lv_at hl 1 rfl) ?_
          refine va_iald hx hb hK hP 2 0 rfl rfl (by first | with_reducible assumption | exact vin_of (b := 16) (by decide) (by with_reducible assumption) (by with_reducible assumption) | exact vin_of (b := 16) (by decide) (Int32.not_lt.mp (by with_reducible assumption)) (by with_reducible assumption) | exact vin_dn (by decide) (by with_reducible assumption) hI9) dX12_keyOfBlock_92 ?_
          refine lv_sipush (v := (-256)) hx hb dX12_keyOfBlock_93 (by decide) ?_
          refine lv_iand hx hb dX12_keyOfBlock_96 ?_
          refine lv_aload_n hx hb dX12_keyOfBlock_97 rfl (lv_at hl 0 rfl) ?_
          refine va_get (D := D) (ci := 12) (v := .ref a_mks) (C := RX12) (T := TX12) (N := 26) hx hb hts in_X12 hown hK hP 0 rfl rfl 2 (by decide) q_3 (fun _ h9 => h9) rfl dX12_keyOfBlock_98 ?_
          refine lv_iload hx hb dX12_keyOfBlock_101 (lv_at hl 4 rfl) ?_
          refine lv_bipush (v := 11) hx hb dX12_keyOfBlock_103 (by decide) ?_
          refine lv_ishr hx hb dX12_keyOfBlock_105 ?_
          refine va_iald hx hb hK hP 1 0 rfl rfl (at11 ex_13 (kb_lt (by rw [eu_1]; exact sup_nn hw) em_28 em_46 c_50)) dX12_keyOfBlock_106 ?_
          refine lv_iconst (v := 3) hx hb dX12_keyOfBlock_107 (by decide) ?_
          refine lv_ishl hx hb dX12_keyOfBlock_108 ?_
          refine lv_ior hx hb dX12_keyOfBlock_109 ?_
          refine va_iast hx hb hK hP hD hS 2 0 rfl rfl (by first | with_reducible assumption | exact vin_of (b := 16) (by decide) (by with_reducible assumption) (by with_reducible assumption) | exact vin_of (b := 16) (by decide) (Int32.not_lt.mp (by with_reducible assumption)) (by with_reducible assumption) | exact vin_dn (by decide) (by with_reducible assumption) hI9) dX12_keyOfBlock_110 (fun H locs hP hD hS => ?_)
          obtain ⟨f_110, ef_110⟩ : ∃ z : Nat → Int32, z = upd v_mrF (x0 : Int32).toNatClampNeg ((((v_mrF (x0 : Int32).toNatClampNeg) &&& (-256 : Int32)) ||| ((v_mkF ((x_13 >>> (11 &&& 31)) : Int32).toNatClampNeg) <<< (3 &&& 31)))) := ⟨_, rfl⟩
          have hP : va_P D vwCl (wX12_keyOfBlock cI cB a_mo a_mem a_mks a_mr a_cnt a_wd a_one a_two a_mmade a_mrest a_old v_thrown v_mask v_key v_wait v_problem v_code v_length v_cond v_masks v_addr v_mwanted m_46 v_after v_calls v_oneB v_twoB v_mkF (upd v_mrF (x0 : Int32).toNatClampNeg ((((v_mrF (x0 : Int32).toNatClampNeg) &&& (-256 : Int32)) ||| ((v_mkF ((x_13 >>> (11 &&& 31)) : Int32).toNatClampNeg) <<< (3 &&& 31)))))) H := hP
          have hD : va_D A (wX12_keyOfBlock cI cB a_mo a_mem a_mks a_mr a_cnt a_wd a_one a_two a_mmade a_mrest a_old v_thrown v_mask v_key v_wait v_problem v_code v_length v_cond v_masks v_addr v_mwanted m_46 v_after v_calls v_oneB v_twoB v_mkF (upd v_mrF (x0 : Int32).toNatClampNeg ((((v_mrF (x0 : Int32).toNatClampNeg) &&& (-256 : Int32)) ||| ((v_mkF ((x_13 >>> (11 &&& 31)) : Int32).toNatClampNeg) <<< (3 &&& 31)))))) := hD
          rw [← ef_110] at hP hD
          have hf9 : (m_46, v_mkF, f_110) = fX12_keyOfBlock x0 x1 x2 v_problem v_wrong v_mkF v_mrF := by subst ef_110; subst ex_13; simp only [fX12_keyOfBlock, ← eu_1, ← em_28, ← em_46]; (try simp only [if_pos c_50, if_pos c_55])
          exact W.vret hx hb hr (fun t9 ht9 hW9 => ⟨⟨(m_46, v_mkF, f_110), rfl, hf9, ⟨by rw [ht9]; exact hP, va_K.moved hW9.alike hK, hD⟩⟩, hS.F ht9⟩) hS.2.2 dX12_keyOfBlock_111
        · skip
          refine lv_aload_n hx hb dX12_keyOfBlock_58 rfl (lv_at hl 0 rfl) ?_
          refine va_get (D := D) (ci := 12) (v := .ref a_mks) (C := RX12) (T := TX12) (N := 26) hx hb hts in_X12 hown hK hP 0 rfl rfl 2 (by decide) q_3 (fun _ h9 => h9) rfl dX12_keyOfBlock_59 ?_
          refine lv_iload hx hb dX12_keyOfBlock_62 (lv_at hl 4 rfl) ?_
          refine lv_bipush (v := 11) hx hb dX12_keyOfBlock_64 (by decide) ?_
          refine lv_ishr hx hb dX12_keyOfBlock_66 ?_
          refine lv_aload_n hx hb dX12_keyOfBlock_67 rfl (lv_at hl 0 rfl) ?_
          refine va_get (D := D) (ci := 12) (v := .ref a_mr) (C := RX12) (T := TX12) (N := 26) hx hb hts in_X12 hown hK hP 0 rfl rfl 3 (by decide) q_0 (fun _ h9 => h9) rfl dX12_keyOfBlock_68 ?_
          refine lv_iload_n hx hb dX12_keyOfBlock_71 rfl (lv_at hl 1 rfl) ?_
          refine va_iald hx hb hK hP 2 0 rfl rfl (by first | with_reducible assumption | exact vin_of (b := 16) (by decide) (by with_reducible assumption) (by with_reducible assumption) | exact vin_of (b := 16) (by decide) (Int32.not_lt.mp (by with_reducible assumption)) (by with_reducible assumption) | exact vin_dn (by decide) (by with_reducible assumption) hI9) dX12_keyOfBlock_72 ?_
          refine lv_iconst (v := 3) hx hb dX12_keyOfBlock_73 (by decide) ?_
          refine lv_ishr hx hb dX12_keyOfBlock_74 ?_
          refine lv_bipush (v := 31) hx hb dX12_keyOfBlock_75 (by decide) ?_
          refine lv_iand hx hb dX12_keyOfBlock_77 ?_
          refine va_iast hx hb hK hP hD hS 1 0 rfl rfl (at11 ex_13 (kb_lt (by rw [eu_1]; exact sup_nn hw) em_28 em_46 c_50)) dX12_keyOfBlock_78 (fun H locs hP hD hS => ?_)
          obtain ⟨f_78, ef_78⟩ : ∃ z : Nat → Int32, z = upd v_mkF ((x_13 >>> (11 &&& 31)) : Int32).toNatClampNeg ((((v_mrF (x0 : Int32).toNatClampNeg) >>> (3 &&& 31)) &&& 31)) := ⟨_, rfl⟩
          have hP : va_P D vwCl (wX12_keyOfBlock cI cB a_mo a_mem a_mks a_mr a_cnt a_wd a_one a_two a_mmade a_mrest a_old v_thrown v_mask v_key v_wait v_problem v_code v_length v_cond v_masks v_addr v_mwanted m_46 v_after v_calls v_oneB v_twoB (upd v_mkF ((x_13 >>> (11 &&& 31)) : Int32).toNatClampNeg ((((v_mrF (x0 : Int32).toNatClampNeg) >>> (3 &&& 31)) &&& 31))) v_mrF) H := hP
          have hD : va_D A (wX12_keyOfBlock cI cB a_mo a_mem a_mks a_mr a_cnt a_wd a_one a_two a_mmade a_mrest a_old v_thrown v_mask v_key v_wait v_problem v_code v_length v_cond v_masks v_addr v_mwanted m_46 v_after v_calls v_oneB v_twoB (upd v_mkF ((x_13 >>> (11 &&& 31)) : Int32).toNatClampNeg ((((v_mrF (x0 : Int32).toNatClampNeg) >>> (3 &&& 31)) &&& 31))) v_mrF) := hD
          rw [← ef_78] at hP hD
          refine lv_goto (tgt := 111) hx hb dX12_keyOfBlock_79 (by decide) ?_
          have hf9 : (m_46, f_78, v_mrF) = fX12_keyOfBlock x0 x1 x2 v_problem v_wrong v_mkF v_mrF := by subst ef_78; subst ex_13; simp only [fX12_keyOfBlock, ← eu_1, ← em_28, ← em_46]; (try simp only [if_pos c_50, if_neg c_55])
          exact W.vret hx hb hr (fun t9 ht9 hW9 => ⟨⟨(m_46, f_78, v_mrF), rfl, hf9, ⟨by rw [ht9]; exact hP, va_K.moved hW9.alike hK, hD⟩⟩, hS.F ht9⟩) hS.2.2 dX12_keyOfBlock_111
      · skip
        have hf9 : (m_46, v_mkF, v_mrF) = fX12_keyOfBlock x0 x1 x2 v_problem v_wrong v_mkF v_mrF := by subst ex_13; simp only [fX12_keyOfBlock, ← eu_1, ← em_28, ← em_46]; (try simp only [if_neg c_50])
        exact W.vret hx hb hr (fun t9 ht9 hW9 => ⟨⟨(m_46, v_mkF, v_mrF), rfl, hf9, ⟨by rw [ht9]; exact hP, va_K.moved hW9.alike hK, hD⟩⟩, hS.F ht9⟩) hS.2.2 dX12_keyOfBlock_53
    refine lv_if_eq (tgt := 46) hx hb dX12_keyOfBlock_37 (by decide) (fun c_37 => ?_) (fun c_37 => ?_)
    · skip
      exact J_46 m_28 (by (try simp only [if_pos c_37])) _ _ hP hD hS ls (lv_sub hl [0, 1, 2, 3, 4] rfl)
    · skip
      refine lv_aload_n hx hb dX12_keyOfBlock_40 rfl (lv_at hl 0 rfl) ?_
      refine lv_bipush (v := 6) hx hb dX12_keyOfBlock_41 (by decide) ?_
      have hPc : va_P D vwCl (wX12_meet cI cB a_mo a_mem a_mks a_mr a_cnt a_wd a_one a_two a_mmade a_mrest a_old v_thrown v_mask v_key v_wait v_problem v_code v_length v_cond v_masks v_addr v_mwanted m_28 v_after v_calls v_oneB v_twoB) H := hP.sub [0] rfl
      have hDc : va_D A (wX12_meet cI cB a_mo a_mem a_mks a_mr a_cnt a_wd a_one a_two a_mmade a_mrest a_old v_thrown v_mask v_key v_wait v_problem v_code v_length v_cond v_masks v_addr v_mwanted m_28 v_after v_calls v_oneB v_twoB) := hD.sub [0] (by decide) rfl
      have hFc := va_free (wc := (wX12_meet cI cB a_mo a_mem a_mks a_mr a_cnt a_wd a_one a_two a_mmade a_mrest a_old v_thrown v_mask v_key v_wait v_problem v_code v_length v_cond v_masks v_addr v_mwanted m_28 v_after v_calls v_oneB v_twoB)) hD hS hA [0] rfl
      refine va_callv (va_runV (As := [.int 6]) (rest := []) ⟨hx, hb, hml, hown, hts⟩ (kX12_meet l D cI cB a_mo a_mem a_mks a_mr a_cnt a_wd a_one a_two a_mmade a_mrest a_old H.size v_thrown v_mask v_key v_wait v_problem v_code v_length v_cond v_masks v_addr v_mwanted m_28 v_after v_calls v_oneB v_twoB 6) (cwV 1 hts (gd_V wd_838 wd_839 wd_840 wd_807 wd_835) rfl rfl rfl hdX12_meet ⟨Nat.le_of_ble_eq_true rfl, Nat.le_of_ble_eq_true rfl⟩) (preV_std (ci := 12) (q0 := 0) hPc hK hDc hNW rfl rfl) rfl rfl hl.1 rfl (lv_room (Nat.le_of_ble_eq_true rfl)) dX12_keyOfBlock_43 ⟨Nat.zero_le _, Nat.zero_le _⟩) hS (fun q _ h => hFc q h) hFc (fun u_43 t9 H1 locs ht9 hvm9 hw9 hB9 hz9 hk9 hS => ?_)
      have eu_43 : u_43 = fX12_meet 6 m_28 := hw9
      obtain ⟨hP, hD⟩ := back_std (w1 := (wX12_meet cI cB a_mo a_mem a_mks a_mr a_cnt a_wd a_one a_two a_mmade a_mrest a_old v_thrown v_mask v_key v_wait v_problem v_code v_length v_cond v_masks v_addr v_mwanted u_43 v_after v_calls v_oneB v_twoB)) (w2 := (wX12_keyOfBlock cI cB a_mo a_mem a_mks a_mr a_cnt a_wd a_one a_two a_mmade a_mrest a_old v_thrown v_mask v_key v_wait v_problem v_code v_length v_cond v_masks v_addr v_mwanted u_43 v_after v_calls v_oneB v_twoB v_mkF v_mrF)) (wr := [(a_mks, .inl (cI, 4, .inl v_mkF)), (a_mr, .inl (cI, 16, .inl v_mrF))]) hP hD [0] [1, 2] [2, 0, 1] rfl rfl (by decide) (by decide) hk9 hFc hB9 ht9 (by decide) rfl
      clear hB9 hk9 hz9 hvm9 ht9 hFc hPc hDc
      generalize H1 = H at hP hS ⊢
      exact J_46 u_43 (by (try simp only [← eu_43]); (try simp only [if_neg c_37])) _ _ hP hD hS ls (lv_sub hl [0, 1, 2, 3, 4] rfl)
  refine lv_icmp_lt (tgt := 28) hx hb dX12_keyOfBlock_20 (by decide) (fun c_20 => ?_) (fun c_20 => ?_)
  · skip
    exact J_28 u_1 (by (try simp only [if_pos c_20])) _ _ hP hD hS ls (lv_sub hl [1, 2, 3, 4, 0] rfl)
  · skip
    refine lv_aload_n hx hb dX12_keyOfBlock_23 rfl (lv_at hl 1 rfl) ?_
    refine lv_iconst (v := 5) hx hb dX12_keyOfBlock_24 (by decide) ?_
    have hPc : va_P D vwCl (wX12_meet cI cB a_mo a_mem a_mks a_mr a_cnt a_wd a_one a_two a_mmade a_mrest a_old v_thrown v_mask v_key v_wait v_problem v_code v_length v_cond v_masks v_addr v_mwanted u_1 v_after v_calls v_oneB v_twoB) H := hP.sub [0] rfl
    have hDc : va_D A (wX12_meet cI cB a_mo a_mem a_mks a_mr a_cnt a_wd a_one a_two a_mmade a_mrest a_old v_thrown v_mask v_key v_wait v_problem v_code v_length v_cond v_masks v_addr v_mwanted u_1 v_after v_calls v_oneB v_twoB) := hD.sub [0] (by decide) rfl
    have hFc := va_free (wc := (wX12_meet cI cB a_mo a_mem a_mks a_mr a_cnt a_wd a_one a_two a_mmade a_mrest a_old v_thrown v_mask v_key v_wait v_problem v_code v_length v_cond v_masks v_addr v_mwanted u_1 v_after v_calls v_oneB v_twoB)) hD hS hA [0] rfl
    refine va_callv (va_runV (As := [.int 5]) (rest := []) ⟨hx, hb, hml, hown, hts⟩ (kX12_meet l D cI cB a_mo a_mem a_mks a_mr a_cnt a_wd a_one a_two a_mmade a_mrest a_old H.size v_thrown v_mask v_key v_wait v_problem v_code v_length v_cond v_masks v_addr v_mwanted u_1 v_after v_calls v_oneB v_twoB 5) (cwV 1 hts (gd_V wd_838 wd_839 wd_840 wd_807 wd_835) rfl rfl rfl hdX12_meet ⟨Nat.le_of_ble_eq_true rfl, Nat.le_of_ble_eq_true rfl⟩) (preV_std (ci := 12) (q0 := 0) hPc hK hDc hNW rfl rfl) rfl rfl hl.1 rfl (lv_room (Nat.le_of_ble_eq_true rfl)) dX12_keyOfBlock_25 ⟨Nat.zero_le _, Nat.zero_le _⟩) hS (fun q _ h => hFc q h) hFc (fun u_25 t9 H1 locs ht9 hvm9 hw9 hB9 hz9 hk9 hS => ?_)
    have eu_25 : u_25 = fX12_meet 5 u_1 := hw9
    obtain ⟨hP, hD⟩ := back_std (w1 := (wX12_meet cI cB a_mo a_mem a_mks a_mr a_cnt a_wd a_one a_two a_mmade a_mrest a_old v_thrown v_mask v_key v_wait v_problem v_code v_length v_cond v_masks v_addr v_mwanted u_25 v_after v_calls v_oneB v_twoB)) (w2 := (wX12_keyOfBlock cI cB a_mo a_mem a_mks a_mr a_cnt a_wd a_one a_two a_mmade a_mrest a_old v_thrown v_mask v_key v_wait v_problem v_code v_length v_cond v_masks v_addr v_mwanted u_25 v_after v_calls v_oneB v_twoB v_mkF v_mrF)) (wr := [(a_mks, .inl (cI, 4, .inl v_mkF)), (a_mr, .inl (cI, 16, .inl v_mrF))]) hP hD [0] [1, 2] [2, 0, 1] rfl rfl (by decide) (by decide) hk9 hFc hB9 ht9 (by decide) rfl
    clear hB9 hk9 hz9 hvm9 ht9 hFc hPc hDc
    generalize H1 = H at hP hS ⊢
    exact J_28 u_25 (by (try simp only [← eu_25]); (try simp only [if_neg c_20])) _ _ hP hD hS ls (lv_sub hl [1, 2, 3, 4, 0] rfl)
theorem hdX12_keyOfBlock : yX12_keyOfBlock.cls = RX12 ∧ yX12_keyOfBlock.cls ≠ "java/lang/invoke/MethodHandle" ∧ yX12_keyOfBlock.cls ≠ "java/lang/invoke/VarHandle" ∧ (parseMethodDescriptor yX12_keyOfBlock.desc).map (fun d => d.parameters.length) = some 3 := by decide +kernel
