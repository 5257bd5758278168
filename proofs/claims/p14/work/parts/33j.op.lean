noncomputable def fX12_registers (x0 : Int32) (v_problem : Int32) (v_length : Int32) (v_cond : Int32) (v_masks : Int32) (v_addr : Int32) (v_wrong : Int32) (v_after : Int32) (v_calls : Int32) (v_mkF : (Nat → Int32)) (v_mrF : (Nat → Int32)) (v_wdF : (Nat → Int32)) : (Int32 × Int32 × Int32 × Int32 × Int32 × Int32 × (Nat → Int32) × (Nat → Int32)) :=
  let x_8 := ((v_wdF (1 : Int32).toNatClampNeg) >>> (4 &&& 31))
  let x_18 := ((v_wdF (1 : Int32).toNatClampNeg) &&& 15)
  let x_25 := (v_mrF (x_18 : Int32).toNatClampNeg)
  if x0 = 4 then (let x_84 := (((v_mrF (x_8 : Int32).toNatClampNeg) >>> (28 &&& 31)) &&& 3); let x_100 := (((v_mrF (x_8 : Int32).toNatClampNeg) >>> (24 &&& 31)) &&& 15); (x_84, x_100, v_addr, v_wrong, v_after, v_calls, v_mkF, v_mrF)) else (if x0 = 5 then (let r_112 := fX12_low v_length v_cond v_masks v_addr; let f_115 := upd v_mrF (x_8 : Int32).toNatClampNeg (r_112); if x_18 = 0 then ((v_cond, v_masks, v_addr, v_wrong, v_after, v_calls, v_mkF, f_115)) else (let u_123 := fX12_branchTo x_25 v_addr; (v_cond, v_masks, u_123, v_wrong, v_after, v_calls, v_mkF, f_115))) else (if x0 = 6 then (let f_138 := upd v_mrF (x_8 : Int32).toNatClampNeg (((v_mrF (x_8 : Int32).toNatClampNeg) - 1)); if x_18 = 0 then ((v_cond, v_masks, v_addr, v_wrong, v_after, v_calls, v_mkF, f_138)) else (if (f_138 (x_8 : Int32).toNatClampNeg) = 0 then ((v_cond, v_masks, v_addr, v_wrong, v_after, v_calls, v_mkF, f_138)) else (let u_155 := fX12_branchTo x_25 v_addr; (v_cond, v_masks, u_155, v_wrong, v_after, v_calls, v_mkF, f_138)))) else (if x0 = 7 then (if x_18 = 0 then ((v_cond, v_masks, v_addr, v_wrong, v_after, v_calls, v_mkF, v_mrF)) else (if ((x_8 >>> ((3 - v_cond) &&& 31)) &&& 1) = 1 then (let u_182 := fX12_branchTo x_25 v_addr; (v_cond, v_masks, u_182, v_wrong, v_after, v_calls, v_mkF, v_mrF)) else ((v_cond, v_masks, v_addr, v_wrong, v_after, v_calls, v_mkF, v_mrF)))) else (if x0 = 8 then (let u_192 := fX12_keyOfBlock x_8 x_18 1 v_problem v_wrong v_mkF v_mrF; (v_cond, v_masks, v_addr, u_192.1, v_after, v_calls, u_192.2.1, u_192.2.2)) else (if x0 = 9 then (let u_202 := fX12_keyOfBlock x_8 x_18 0 v_problem v_wrong v_mkF v_mrF; (v_cond, v_masks, v_addr, u_202.1, v_after, v_calls, u_202.2.1, u_202.2.2)) else (if x0 = 10 then ((v_cond, v_masks, v_addr, v_wrong, v_after, 1, v_mkF, v_mrF)) else (if 16 ≤ x0 then (let u_242 := fX12_reckon (x0 - 16) x_8 (v_mrF (x_18 : Int32).toNatClampNeg) v_cond v_masks v_wrong v_after v_mrF; (u_242.1, v_masks, v_addr, u_242.2.1, u_242.2.2.1, v_calls, v_mkF, u_242.2.2.2)) else (let u_224 := fX12_meet 1 v_wrong; (v_cond, v_masks, v_addr, u_224, v_after, v_calls, v_mkF, v_mrF)))))))))
abbrev wX12_registers (cI cB : ClassId) (a_mo a_mem a_mks a_mr a_cnt a_wd a_one a_two a_mmade a_mrest a_old : Nat) (v_thrown : Int32) (v_mask : Int32) (v_key : Int32) (v_wait : Int32) (v_problem : Int32) (v_code : Int32) (v_length : Int32) (v_cond : Int32) (v_masks : Int32) (v_addr : Int32) (v_mwanted : Int32) (v_wrong : Int32) (v_after : Int32) (v_calls : Int32) (v_oneB : Int32) (v_twoB : Int32) (v_mkF : (Nat → Int32)) (v_mrF : (Nat → Int32)) (v_wdF : (Nat → Int32)) : va_W := [(a_mo, .inr (12, [.int v_thrown, .ref a_mem, .ref a_mks, .ref a_mr, .int v_mask, .int v_key, .int v_wait, .int v_problem, .int v_code, .int v_length, .int v_cond, .int v_masks, .int v_addr, .int v_mwanted, .ref a_cnt, .ref a_wd, .int v_wrong, .int v_after, .int v_calls, .ref a_one, .int v_oneB, .ref a_two, .int v_twoB, .ref a_mmade, .ref a_mrest, .ref a_old])), (a_mks, .inl (cI, 4, .inl v_mkF)), (a_mr, .inl (cI, 16, .inl v_mrF)), (a_wd, .inl (cI, 6, .inl v_wdF))]
abbrev rmX12_registers : Room := { frames := 4, cells := 0, slots := 0, locals := 94 }
abbrev qX12_registers (D : va_G) (cI cB : ClassId) (a_mo a_mem a_mks a_mr a_cnt a_wd a_one a_two a_mmade a_mrest a_old : Nat) (v_thrown : Int32) (v_mask : Int32) (v_key : Int32) (v_wait : Int32) (v_problem : Int32) (v_code : Int32) (v_length : Int32) (v_cond : Int32) (v_masks : Int32) (v_addr : Int32) (v_mwanted : Int32) (v_wrong : Int32) (v_after : Int32) (v_calls : Int32) (v_oneB : Int32) (v_twoB : Int32) (v_mkF : (Nat → Int32)) (v_mrF : (Nat → Int32)) (v_wdF : (Nat → Int32)) (x0 : Int32) : (Nat → Prop) → Array Value → State → Outcome → State → Prop := fun A9 => va_Qv (fun (u9 : (Int32 × Int32 × Int32 × Int32 × Int32 × Int32 × (Nat → Int32) × (Nat → Int32))) => u9 = fX12_registers x0 v_problem v_length v_cond v_masks v_addr v_wrong v_after v_calls v_mkF v_mrF v_wdF) (fun u9 t9 => atW D (TYS cI cB) A9 (wX12_registers cI cB a_mo a_mem a_mks a_mr a_cnt a_wd a_one a_two a_mmade a_mrest a_old v_thrown v_mask v_key v_wait v_problem v_code v_length u9.1 u9.2.1 u9.2.2.1 v_mwanted u9.2.2.2.1 u9.2.2.2.2.1 u9.2.2.2.2.2.1 v_oneB v_twoB u9.2.2.2.2.2.2.1 u9.2.2.2.2.2.2.2 v_wdF) t9) A9
set_option maxHeartbeats 4000000 in
set_option maxRecDepth 100000 in
theorem kX12_registers (l : Launch) (D : va_G) (cI cB : ClassId) (a_mo a_mem a_mks a_mr a_cnt a_wd a_one a_two a_mmade a_mrest a_old : Nat) (sz : Nat) (v_thrown : Int32) (v_mask : Int32) (v_key : Int32) (v_wait : Int32) (v_problem : Int32) (v_code : Int32) (v_length : Int32) (v_cond : Int32) (v_masks : Int32) (v_addr : Int32) (v_mwanted : Int32) (v_wrong : Int32) (v_after : Int32) (v_calls : Int32) (v_oneB : Int32) (v_twoB : Int32) (v_mkF : (Nat → Int32)) (v_mrF : (Nat → Int32)) (v_wdF : (Nat → Int32)) (x0 : Int32) (hW : wdOk v_wdF) (hw : 0 ≤ v_wrong) : MetW l yX12_registers (WK yX12_registers cX12_registers 5 none) rmX12_registers D (TYS cI cB) (wX12_registers cI cB a_mo a_mem a_mks a_mr a_cnt a_wd a_one a_two a_mmade a_mrest a_old v_thrown v_mask v_key v_wait v_problem v_code v_length v_cond v_masks v_addr v_mwanted v_wrong v_after v_calls v_oneB v_twoB v_mkF v_mrF v_wdF) sz [.ref a_mo, .int x0] (qX12_registers D cI cB a_mo a_mem a_mks a_mr a_cnt a_wd a_one a_two a_mmade a_mrest a_old v_thrown v_mask v_key v_wait v_problem v_code v_length v_cond v_masks v_addr v_mwanted v_wrong v_after v_calls v_oneB v_twoB v_mkF v_mrF v_wdF x0) 0 0 := by
  refine met_std (by decide) rfl (Nat.le_of_ble_eq_true rfl) ?_
  intro p e s m below meth c A ls H hx hb hr hml hown hts hlocks hA hP hK hD hS hNW hl
  have hl : lv_has ls 5 [(0, .ref a_mo), (1, .int x0)] := hl
  generalize ([] : List Loc) = locs at hS ⊢
  have q_0 := hts _ (List.mem_cons_of_mem _ wd_781)
  have q_1 := hts _ (List.mem_cons_of_mem _ wd_779)
  have q_2 := hts _ (List.mem_cons_of_mem _ wd_792)
  have q_3 := hts _ (List.mem_cons_of_mem _ wd_793)
  have q_4 := hts _ (List.mem_cons_of_mem _ wd_916)
  refine lv_aload_n hx hb dX12_registers_0 rfl (lv_at hl 0 rfl) ?_
  refine va_get (D := D) (ci := 12) (v := .ref a_wd) (C := RX12) (T := TX12) (N := 26) hx hb hts in_X12 hown hK hP 0 rfl rfl 15 (by decide) q_0 (fun _ h9 => h9) rfl dX12_registers_1 ?_
  refine lv_iconst (v := 1) hx hb dX12_registers_4 (by decide) ?_
  refine va_iald hx hb hK hP 3 0 rfl rfl (by unfold vp_in; decide) dX12_registers_5 ?_
  refine lv_iconst (v := 4) hx hb dX12_registers_6 (by decide) ?_
  refine lv_ishr hx hb dX12_registers_7 ?_
  refine lv_topi (fun x_8 ex_8 => ?_)
  refine lv_istore_n (lv' := [(2, .int x_8), (0, .ref a_mo), (1, .int x0)]) hx hb dX12_registers_8 rfl hl (by decide) rfl (fun ls hl => ?_)
  refine lv_aload_n hx hb dX12_registers_9 rfl (lv_at hl 1 rfl) ?_
  refine va_get (D := D) (ci := 12) (v := .ref a_wd) (C := RX12) (T := TX12) (N := 26) hx hb hts in_X12 hown hK hP 0 rfl rfl 15 (by decide) q_0 (fun _ h9 => h9) rfl dX12_registers_10 ?_
  refine lv_iconst (v := 1) hx hb dX12_registers_13 (by decide) ?_
  refine va_iald hx hb hK hP 3 0 rfl rfl (by unfold vp_in; decide) dX12_registers_14 ?_
  refine lv_bipush (v := 15) hx hb dX12_registers_15 (by decide) ?_
  refine lv_iand hx hb dX12_registers_17 ?_
  refine lv_topi (fun x_18 ex_18 => ?_)
  refine lv_istore_n (lv' := [(3, .int x_18), (2, .int x_8), (0, .ref a_mo), (1, .int x0)]) hx hb dX12_registers_18 rfl hl (by decide) rfl (fun ls hl => ?_)
  refine lv_aload_n hx hb dX12_registers_19 rfl (lv_at hl 2 rfl) ?_
  refine va_get (D := D) (ci := 12) (v := .ref a_mr) (C := RX12) (T := TX12) (N := 26) hx hb hts in_X12 hown hK hP 0 rfl rfl 3 (by decide) q_1 (fun _ h9 => h9) rfl dX12_registers_20 ?_
  refine lv_iload_n hx hb dX12_registers_23 rfl (lv_at hl 0 rfl) ?_
  refine va_iald hx hb hK hP 2 0 rfl rfl (by rw [ex_18]; exact pk_andIn _ 4 (by decide) (by decide)) dX12_registers_24 ?_
  refine lv_topi (fun x_25 ex_25 => ?_)
  refine lv_istore (lv' := [(4, .int x_25), (3, .int x_18), (2, .int x_8), (0, .ref a_mo), (1, .int x0)]) hx hb dX12_registers_25 hl (by decide) rfl (fun ls hl => ?_)
  have hk : vp_in x_8 16 := nib ex_8 (hW _ (by decide))
  refine lv_iload_n hx hb dX12_registers_27 rfl (lv_at hl 4 rfl) ?_
  by_cases c_28_0 : x0 = 4
  · skip
    refine lv_tableIn (tgt := 72) (off := 44) hx hb dX12_registers_28 (by rw [c_28_0]; decide) (by rw [c_28_0]; decide) (by rw [c_28_0]; rfl) (by decide) ?_
    refine lv_aload_n hx hb dX12_registers_72 rfl (lv_at hl 3 rfl) ?_
    refine lv_aload_n hx hb dX12_registers_73 rfl (lv_at hl 3 rfl) ?_
    refine va_get (D := D) (ci := 12) (v := .ref a_mr) (C := RX12) (T := TX12) (N := 26) hx hb hts in_X12 hown hK hP 0 rfl rfl 3 (by decide) q_1 (fun _ h9 => h9) rfl dX12_registers_74 ?_
    refine lv_iload_n hx hb dX12_registers_77 rfl (lv_at hl 2 rfl) ?_
    refine va_iald hx hb hK hP 2 0 rfl rfl (by first | with_reducible assumption | exact vin_of (b := 16) (by decide) (by with_reducible assumption) (by with_reducible assumption) | exact vin_of (b := 16) (by decide) (Int32.not_lt.mp (by with_reducible assumption)) (by with_reducible assumption) | exact vin_dn (by decide) (by with_reducible assumption) hI9) dX12_registers_78 ?_
    refine lv_bipush (v := 28) hx hb dX12_registers_79 (by decide) ?_
    refine lv_ishr hx hb dX12_registers_81 ?_
    refine lv_iconst (v := 3) hx hb dX12_registers_82 (by decide) ?_
    refine lv_iand hx hb dX12_registers_83 ?_
    refine lv_topi (fun x_84 ex_84 => ?_)
    refine va_put (D := D) (ci := 12) (v := .int x_84) (ty := .int) (C := RX12) (T := TX12) (N := 26) hx hb hts in_X12 tyX12 tyX12_ok nmX12 hown hK hP hD hS 0 rfl rfl 10 (by decide) q_2 (fun _ h9 => h9) rfl (by decide +kernel) rfl rfl (Nat.le_of_ble_eq_true rfl) dX12_registers_84 (fun H locs hP hD hS => ?_)
    have hP : va_P D vwCl (wX12_registers cI cB a_mo a_mem a_mks a_mr a_cnt a_wd a_one a_two a_mmade a_mrest a_old v_thrown v_mask v_key v_wait v_problem v_code v_length x_84 v_masks v_addr v_mwanted v_wrong v_after v_calls v_oneB v_twoB v_mkF v_mrF v_wdF) H := hP
    have hD : va_D A (wX12_registers cI cB a_mo a_mem a_mks a_mr a_cnt a_wd a_one a_two a_mmade a_mrest a_old v_thrown v_mask v_key v_wait v_problem v_code v_length x_84 v_masks v_addr v_mwanted v_wrong v_after v_calls v_oneB v_twoB v_mkF v_mrF v_wdF) := hD
    refine lv_aload_n hx hb dX12_registers_87 rfl (lv_at hl 3 rfl) ?_
    refine lv_aload_n hx hb dX12_registers_88 rfl (lv_at hl 3 rfl) ?_
    refine va_get (D := D) (ci := 12) (v := .ref a_mr) (C := RX12) (T := TX12) (N := 26) hx hb hts in_X12 hown hK hP 0 rfl rfl 3 (by decide) q_1 (fun _ h9 => h9) rfl dX12_registers_89 ?_
    refine lv_iload_n hx hb dX12_registers_92 rfl (lv_at hl 2 rfl) ?_
    refine va_iald hx hb hK hP 2 0 rfl rfl (by first | with_reducible assumption | exact vin_of (b := 16) (by decide) (by with_reducible assumption) (by with_reducible assumption) | exact vin_of (b := 16) (by decide) (Int32.not_lt.mp (by with_reducible assumption)) (by with_reducible assumption) | exact vin_dn (by decide) (by with_reducible assumption) hI9) dX12_registers_93 ?_
    refine lv_bipush (v := 24) hx hb dX12_registers_94 (by decide) ?_
    refine lv_ishr hx hb dX12_registers_96 ?_
    refine lv_bipush (v := 15) hx hb dX12_registers_97 (by decide) ?_
    refine lv_iand hx hb dX12_registers_99 ?_
    refine lv_topi (fun x_100 ex_100 => ?_)
    refine va_put (D := D) (ci := 12) (v := .int x_100) (ty := .int) (C := RX12) (T := TX12) (N := 26) hx hb hts in_X12 tyX12 tyX12_ok nmX12 hown hK hP hD hS 0 rfl rfl 11 (by decide) q_3 (fun _ h9 => h9) rfl (by decide +kernel) rfl rfl (Nat.le_of_ble_eq_true rfl) dX12_registers_100 (fun H locs hP hD hS => ?_)
    have hP : va_P D vwCl (wX12_registers cI cB a_mo a_mem a_mks a_mr a_cnt a_wd a_one a_two a_mmade a_mrest a_old v_thrown v_mask v_key v_wait v_problem v_code v_length x_84 x_100 v_addr v_mwanted v_wrong v_after v_calls v_oneB v_twoB v_mkF v_mrF v_wdF) H := hP
    have hD : va_D A (wX12_registers cI cB a_mo a_mem a_mks a_mr a_cnt a_wd a_one a_two a_mmade a_mrest a_old v_thrown v_mask v_key v_wait v_problem v_code v_length x_84 x_100 v_addr v_mwanted v_wrong v_after v_calls v_oneB v_twoB v_mkF v_mrF v_wdF) := hD
    refine lv_goto (tgt := 245) hx hb dX12_registers_103 (by decide) ?_
    have hf9 : (x_84, x_100, v_addr, v_wrong, v_after, v_calls, v_mkF, v_mrF) = fX12_registers x0 v_problem v_length v_cond v_masks v_addr v_wrong v_after v_calls v_mkF v_mrF v_wdF := by subst ex_100; subst ex_84; subst ex_25; subst ex_18; subst ex_8; simp only [fX12_registers]; (try simp only [if_pos c_28_0])
    exact W.vret hx hb hr (fun t9 ht9 hW9 => ⟨⟨(x_84, x_100, v_addr, v_wrong, v_after, v_calls, v_mkF, v_mrF), rfl, hf9, ⟨by rw [ht9]; exact hP, va_K.moved hW9.alike hK, hD⟩⟩, hS.F ht9⟩) hS.2.2 dX12_registers_245
  · skip
    by_cases c_28_1 : x0 = 5
    · skip
      refine lv_tableIn (tgt := 106) (off := 78) hx hb dX12_registers_28 (by rw [c_28_1]; decide) (by rw [c_28_1]; decide) (by rw [c_28_1]; rfl) (by decide) ?_
      refine lv_aload_n hx hb dX12_registers_106 rfl (lv_at hl 3 rfl) ?_
      refine va_get (D := D) (ci := 12) (v := .ref a_mr) (C := RX12) (T := TX12) (N := 26) hx hb hts in_X12 hown hK hP 0 rfl rfl 3 (by decide) q_1 (fun _ h9 => h9) rfl dX12_registers_107 ?_
      refine lv_iload_n hx hb dX12_registers_110 rfl (lv_at hl 2 rfl) ?_
      refine lv_aload_n hx hb dX12_registers_111 rfl (lv_at hl 3 rfl) ?_
      have hPc : va_P D vwCl (wX12_low cI cB a_mo a_mem a_mks a_mr a_cnt a_wd a_one a_two a_mmade a_mrest a_old v_thrown v_mask v_key v_wait v_problem v_code v_length v_cond v_masks v_addr v_mwanted v_wrong v_after v_calls v_oneB v_twoB) H := hP.sub [0] rfl
      have hDc : va_D A (wX12_low cI cB a_mo a_mem a_mks a_mr a_cnt a_wd a_one a_two a_mmade a_mrest a_old v_thrown v_mask v_key v_wait v_problem v_code v_length v_cond v_masks v_addr v_mwanted v_wrong v_after v_calls v_oneB v_twoB) := hD.sub [0] (by decide) rfl
      have hFc := va_free (wc := (wX12_low cI cB a_mo a_mem a_mks a_mr a_cnt a_wd a_one a_two a_mmade a_mrest a_old v_thrown v_mask v_key v_wait v_problem v_code v_length v_cond v_masks v_addr v_mwanted v_wrong v_after v_calls v_oneB v_twoB)) hD hS hA [0] rfl
      refine va_calli (va_runV (As := []) (rest := [.int x_8, .ref a_mr]) ⟨hx, hb, hml, hown, hts⟩ (kX12_low l D cI cB a_mo a_mem a_mks a_mr a_cnt a_wd a_one a_two a_mmade a_mrest a_old H.size v_thrown v_mask v_key v_wait v_problem v_code v_length v_cond v_masks v_addr v_mwanted v_wrong v_after v_calls v_oneB v_twoB ) (cwV 0 hts (gd_V wd_804 wd_805 wd_806 wd_807 wd_790) rfl rfl rfl hdX12_low ⟨Nat.le_of_ble_eq_true rfl, Nat.le_of_ble_eq_true rfl⟩) (preV_std (ci := 12) (q0 := 0) hPc hK hDc hNW rfl rfl) rfl rfl hl.1 rfl (lv_room (Nat.le_of_ble_eq_true rfl)) dX12_registers_112 ⟨Nat.zero_le _, Nat.zero_le _⟩) hS (fun q _ h => hFc q h) hFc (fun r_112 u_112 t9 H1 locs ht9 hvm9 hw9 hB9 hz9 hk9 hS => ?_)
      have er_112 : r_112 = fX12_low v_length v_cond v_masks v_addr := hw9
      obtain ⟨hP, hD⟩ := back_std (w1 := (wX12_low cI cB a_mo a_mem a_mks a_mr a_cnt a_wd a_one a_two a_mmade a_mrest a_old v_thrown v_mask v_key v_wait v_problem v_code v_length v_cond v_masks v_addr v_mwanted v_wrong v_after v_calls v_oneB v_twoB)) (w2 := (wX12_registers cI cB a_mo a_mem a_mks a_mr a_cnt a_wd a_one a_two a_mmade a_mrest a_old v_thrown v_mask v_key v_wait v_problem v_code v_length v_cond v_masks v_addr v_mwanted v_wrong v_after v_calls v_oneB v_twoB v_mkF v_mrF v_wdF)) (wr := [(a_mks, .inl (cI, 4, .inl v_mkF)), (a_mr, .inl (cI, 16, .inl v_mrF)), (a_wd, .inl (cI, 6, .inl v_wdF))]) hP hD [0] [1, 2, 3] [3, 0, 1, 2] rfl rfl (by decide) (by decide) hk9 hFc hB9 ht9 (by decide) rfl
      clear hB9 hk9 hz9 hvm9 ht9 hFc hPc hDc
      generalize H1 = H at hP hS ⊢
      refine va_iast hx hb hK hP hD hS 2 0 rfl rfl (by first | with_reducible assumption | exact vin_of (b := 16) (by decide) (by with_reducible assumption) (by with_reducible assumption) | exact vin_of (b := 16) (by decide) (Int32.not_lt.mp (by with_reducible assumption)) (by with_reducible assumption) | exact vin_dn (by decide) (by with_reducible assumption) hI9) dX12_registers_115 (fun H locs hP hD hS => ?_)
      obtain ⟨f_115, ef_115⟩ : ∃ z : Nat → Int32, z = upd v_mrF (x_8 : Int32).toNatClampNeg (r_112) := ⟨_, rfl⟩
      have hP : va_P D vwCl (wX12_registers cI cB a_mo a_mem a_mks a_mr a_cnt a_wd a_one a_two a_mmade a_mrest a_old v_thrown v_mask v_key v_wait v_problem v_code v_length v_cond v_masks v_addr v_mwanted v_wrong v_after v_calls v_oneB v_twoB v_mkF (upd v_mrF (x_8 : Int32).toNatClampNeg (r_112)) v_wdF) H := hP
      have hD : va_D A (wX12_registers cI cB a_mo a_mem a_mks a_mr a_cnt a_wd a_one a_two a_mmade a_mrest a_old v_thrown v_mask v_key v_wait v_problem v_code v_length v_cond v_masks v_addr v_mwanted v_wrong v_after v_calls v_oneB v_twoB v_mkF (upd v_mrF (x_8 : Int32).toNatClampNeg (r_112)) v_wdF) := hD
      rw [← ef_115] at hP hD
      refine lv_iload_n hx hb dX12_registers_116 rfl (lv_at hl 1 rfl) ?_
      refine lv_if_eq (tgt := 245) hx hb dX12_registers_117 (by decide) (fun c_117 => ?_) (fun c_117 => ?_)
      · skip
        have hf9 : (v_cond, v_masks, v_addr, v_wrong, v_after, v_calls, v_mkF, f_115) = fX12_registers x0 v_problem v_length v_cond v_masks v_addr v_wrong v_after v_calls v_mkF v_mrF v_wdF := by subst ef_115; subst ex_25; subst ex_18; subst ex_8; simp only [fX12_registers, ← er_112]; (try simp only [if_neg c_28_0, if_pos c_28_1, if_pos c_117])
        exact W.vret hx hb hr (fun t9 ht9 hW9 => ⟨⟨(v_cond, v_masks, v_addr, v_wrong, v_after, v_calls, v_mkF, f_115), rfl, hf9, ⟨by rw [ht9]; exact hP, va_K.moved hW9.alike hK, hD⟩⟩, hS.F ht9⟩) hS.2.2 dX12_registers_245
      · skip
        refine lv_aload_n hx hb dX12_registers_120 rfl (lv_at hl 3 rfl) ?_
        refine lv_iload hx hb dX12_registers_121 (lv_at hl 0 rfl) ?_
        have hPc : va_P D vwCl (wX12_branchTo cI cB a_mo a_mem a_mks a_mr a_cnt a_wd a_one a_two a_mmade a_mrest a_old v_thrown v_mask v_key v_wait v_problem v_code v_length v_cond v_masks v_addr v_mwanted v_wrong v_after v_calls v_oneB v_twoB) H := hP.sub [0] rfl
        have hDc : va_D A (wX12_branchTo cI cB a_mo a_mem a_mks a_mr a_cnt a_wd a_one a_two a_mmade a_mrest a_old v_thrown v_mask v_key v_wait v_problem v_code v_length v_cond v_masks v_addr v_mwanted v_wrong v_after v_calls v_oneB v_twoB) := hD.sub [0] (by decide) rfl
        have hFc := va_free (wc := (wX12_branchTo cI cB a_mo a_mem a_mks a_mr a_cnt a_wd a_one a_two a_mmade a_mrest a_old v_thrown v_mask v_key v_wait v_problem v_code v_length v_cond v_masks v_addr v_mwanted v_wrong v_after v_calls v_oneB v_twoB)) hD hS hA [0] rfl
        refine va_callv (va_runV (As := [.int x_25]) (rest := []) ⟨hx, hb, hml, hown, hts⟩ (kX12_branchTo l D cI cB a_mo a_mem a_mks a_mr a_cnt a_wd a_one a_two a_mmade a_mrest a_old H.size v_thrown v_mask v_key v_wait v_problem v_code v_length v_cond v_masks v_addr v_mwanted v_wrong v_after v_calls v_oneB v_twoB x_25) (cwV 1 hts (gd_V wd_917 wd_918 wd_919 wd_807 wd_911) rfl rfl rfl hdX12_branchTo ⟨Nat.le_of_ble_eq_true rfl, Nat.le_of_ble_eq_true rfl⟩) (preV_std (ci := 12) (q0 := 0) hPc hK hDc hNW rfl rfl) rfl rfl hl.1 rfl (lv_room (Nat.le_of_ble_eq_true rfl)) dX12_registers_123 ⟨Nat.zero_le _, Nat.zero_le _⟩) hS (fun q _ h => hFc q h) hFc (fun u_123 t9 H1 locs ht9 hvm9 hw9 hB9 hz9 hk9 hS => ?_)
        have eu_123 : u_123 = fX12_branchTo x_25 v_addr := hw9
        obtain ⟨hP, hD⟩ := back_std (w1 := (wX12_branchTo cI cB a_mo a_mem a_mks a_mr a_cnt a_wd a_one a_two a_mmade a_mrest a_old v_thrown v_mask v_key v_wait v_problem v_code v_length v_cond v_masks u_123 v_mwanted v_wrong v_after v_calls v_oneB v_twoB)) (w2 := (wX12_registers cI cB a_mo a_mem a_mks a_mr a_cnt a_wd a_one a_two a_mmade a_mrest a_old v_thrown v_mask v_key v_wait v_problem v_code v_length v_cond v_masks u_123 v_mwanted v_wrong v_after v_calls v_oneB v_twoB v_mkF f_115 v_wdF)) (wr := [(a_mks, .inl (cI, 4, .inl v_mkF)), (a_mr, .inl (cI, 16, .inl f_115)), (a_wd, .inl (cI, 6, .inl v_wdF))]) hP hD [0] [1, 2, 3] [3, 0, 1, 2] rfl rfl (by decide) (by decide) hk9 hFc hB9 ht9 (by decide) rfl
        clear hB9 hk9 hz9 hvm9 ht9 hFc hPc hDc
        generalize H1 = H at hP hS ⊢
        refine lv_goto (tgt := 245) hx hb dX12_registers_126 (by decide) ?_
        have hf9 : (v_cond, v_masks, u_123, v_wrong, v_after, v_calls, v_mkF, f_115) = fX12_registers x0 v_problem v_length v_cond v_masks v_addr v_wrong v_after v_calls v_mkF v_mrF v_wdF := by subst ef_115; subst ex_25; subst ex_18; subst ex_8; simp only [fX12_registers, ← er_112, ← eu_123]; (try simp only [if_neg c_28_0, if_pos c_28_1, if_neg c_117])
        exact W.vret hx hb hr (fun t9 ht9 hW9 => ⟨⟨(v_cond, v_masks, u_123, v_wrong, v_after, v_calls, v_mkF, f_115), rfl, hf9, ⟨by rw [ht9]; exact hP, va_K.moved hW9.alike hK, hD⟩⟩, hS.F ht9⟩) hS.2.2 dX12_registers_245
    · skip
      by_cases c_28_2 : x0 = 6
      · skip
        refine lv_tableIn (tgt := 129) (off := 101) hx hb dX12_registers_28 (by rw [c_28_2]; decide) (by rw [c_28_2]; decide) (by rw [c_28_2]; rfl) (by decide) ?_
        refine lv_aload_n hx hb dX12_registers_129 rfl (lv_at hl 3 rfl) ?_
        refine va_get (D := D) (ci := 12) (v := .ref a_mr) (C := RX12) (T := TX12) (N := 26) hx hb hts in_X12 hown hK hP 0 rfl rfl 3 (by decide) q_1 (fun _ h9 => h9) rfl dX12_registers_130 ?_
        refine lv_iload_n hx hb dX12_registers_133 rfl (lv_at hl 2 rfl) ?_
        refine lv_dup2_11 hx hb dX12_registers_134 rfl rfl ?_
        refine va_iald hx hb hK hP 2 0 rfl rfl (by first | with_reducible assumption | exact vin_of (b := 16) (by decide) (by with_reducible assumption) (by with_reducible assumption) | exact vin_of (b := 16) (by decide) (Int32.not_lt.mp (by with_reducible assumption)) (by with_reducible assumption) | exact vin_dn (by decide) (by with_reducible assumption) hI9) dX12_registers_135 ?_
        refine lv_iconst (v := 1) hx hb dX12_registers_136 (by decide) ?_
        refine lv_isub hx hb dX12_registers_137 ?_
        refine va_iast hx hb hK hP hD hS 2 0 rfl rfl (by first | with_reducible assumption | exact vin_of (b := 16) (by decide) (by with_reducible assumption) (by with_reducible assumption) | exact vin_of (b := 16) (by decide) (Int32.not_lt.mp (by with_reducible assumption)) (by with_reducible assumption) | exact vin_dn (by decide) (by with_reducible assumption) hI9) dX12_registers_138 (fun H locs hP hD hS => ?_)
        obtain ⟨f_138, ef_138⟩ : ∃ z : Nat → Int32, z = upd v_mrF (x_8 : Int32).toNatClampNeg (((v_mrF (x_8 : Int32).toNatClampNeg) - 1)) := ⟨_, rfl⟩
        have hP : va_P D vwCl (wX12_registers cI cB a_mo a_mem a_mks a_mr a_cnt a_wd a_one a_two a_mmade a_mrest a_old v_thrown v_mask v_key v_wait v_problem v_code v_length v_cond v_masks v_addr v_mwanted v_wrong v_after v_calls v_oneB v_twoB v_mkF (upd v_mrF (x_8 : Int32).toNatClampNeg (((v_mrF (x_8 : Int32).toNatClampNeg) - 1))) v_wdF) H := hP
        have hD : va_D A (wX12_registers cI cB a_mo a_mem a_mks a_mr a_cnt a_wd a_one a_two a_mmade a_mrest a_old v_thrown v_mask v_key v_wait v_problem v_code v_length v_cond v_masks v_addr v_mwanted v_wrong v_after v_calls v_oneB v_twoB v_mkF (upd v_mrF (x_8 : Int32).toNatClampNeg (((v_mrF (x_8 : Int32).toNatClampNeg) - 1))) v_wdF) := hD
        rw [← ef_138] at hP hD
        refine lv_iload_n hx hb dX12_registers_139 rfl (lv_at hl 1 rfl) ?_
        refine lv_if_eq (tgt := 245) hx hb dX12_registers_140 (by decide) (fun c_140 => ?_) (fun c_140 => ?_)
        · skip
          have hf9 : (v_cond, v_masks, v_addr, v_wrong, v_after, v_calls, v_mkF, f_138) = fX12_registers x0 v_problem v_length v_cond v_masks v_addr v_wrong v_after v_calls v_mkF v_mrF v_wdF := by subst ef_138; subst ex_25; subst ex_18; subst ex_8; simp only [fX12_registers]; (try simp only [if_neg c_28_0, if_neg c_28_1, if_pos c_28_2, if_pos c_140])
          exact W.vret hx hb hr (fun t9 ht9 hW9 => ⟨⟨(v_cond, v_masks, v_addr, v_wrong, v_after, v_calls, v_mkF, f_138), rfl, hf9, ⟨by rw [ht9]; exact hP, va_K.moved hW9.alike hK, hD⟩⟩, hS.F ht9⟩) hS.2.2 dX12_registers_245
        · skip
          refine lv_aload_n hx hb dX12_registers_143 rfl (lv_at hl 3 rfl) ?_
          refine va_get (D := D) (ci := 12) (v := .ref a_mr) (C := RX12) (T := TX12) (N := 26) hx hb hts in_X12 hown hK hP 0 rfl rfl 3 (by decide) q_1 (fun _ h9 => h9) rfl dX12_registers_144 ?_
          refine lv_iload_n hx hb dX12_registers_147 rfl (lv_at hl 2 rfl) ?_
          refine va_iald hx hb hK hP 2 0 rfl rfl (by first | with_reducible assumption | exact vin_of (b := 16) (by decide) (by with_reducible assumption) (by with_reducible assumption) | exact vin_of (b := 16) (by decide) (Int32.not_lt.mp (by with_reducible assumption)) (by with_reducible assumption) | exact vin_dn (by decide) (by with_reducible assumption) hI9) dX12_registers_148 ?_
          refine lv_if_eq (tgt := 245) hx hb dX12_registers_149 (by decide) (fun c_149 => ?_) (fun c_149 => ?_)
          · skip
            have hf9 : (v_cond, v_masks, v_addr, v_wrong, v_after, v_calls, v_mkF, f_138) = fX12_registers x0 v_problem v_length v_cond v_masks v_addr v_wrong v_after v_calls v_mkF v_mrF v_wdF := by subst ef_138; subst ex_25; subst ex_18; subst ex_8; simp only [fX12_registers]; (try simp only [if_neg c_28_0, if_neg c_28_1, if_pos c_28_2, if_neg c_140, if_pos c_149])
            exact W.vret hx hb hr (fun t9 ht9 hW9 => ⟨⟨(v_cond, v_masks, v_addr, v_wrong, v_after, v_calls, v_mkF, f_138), rfl, hf9, ⟨by rw [ht9]; exact hP, va_K.moved hW9.alike hK, hD⟩⟩, hS.F ht9⟩) hS.2.2 dX12_registers_245
          · skip
            refine lv_aload_n hx hb dX12_registers_152 rfl (lv_at hl 3 rfl) ?_
            refine lv_iload hx hb dX12_registers_153 (lv_at hl 0 rfl) ?_
            have hPc : va_P D vwCl (wX12_branchTo cI cB a_mo a_mem a_mks a_mr a_cnt a_wd a_one a_two a_mmade a_mrest a_old v_thrown v_mask v_key v_wait v_problem v_code v_length v_cond v_masks v_addr v_mwanted v_wrong v_after v_calls v_oneB v_twoB) H := hP.sub [0] rfl
            have hDc : va_D A (wX12_branchTo cI cB a_mo a_mem a_mks a_mr a_cnt a_wd a_one a_two a_mmade a_mrest a_old v_thrown v_mask v_key v_wait v_problem v_code v_length v_cond v_masks v_addr v_mwanted v_wrong v_after v_calls v_oneB v_twoB) := hD.sub [0] (by decide) rfl
            have hFc := va_free (wc := (wX12_branchTo cI cB a_mo a_mem a_mks a_mr a_cnt a_wd a_one a_two a_mmade a_mrest a_old v_thrown v_mask v_key v_wait v_problem v_code v_length v_cond v_masks v_addr v_mwanted v_wrong v_after v_calls v_oneB v_twoB)) hD hS hA [0] rfl
            refine va_callv (va_runV (As := [.int x_25]) (rest := []) ⟨hx, hb, hml, hown, hts⟩ (kX12_branchTo l D cI cB a_mo a_mem a_mks a_mr a_cnt a_wd a_one a_two a_mmade a_mrest a_old H.size v_thrown v_mask v_key v_wait v_problem v_code v_length v_cond v_masks v_addr v_mwanted v_wrong v_after v_calls v_oneB v_twoB x_25) (cwV 1 hts (gd_V wd_917 wd_918 wd_919 wd_807 wd_911) rfl rfl rfl hdX12_branchTo ⟨Nat.le_of_ble_eq_true rfl, Nat.le_of_ble_eq_true rfl⟩) (preV_std (ci := 12) (q0 := 0) hPc hK hDc hNW rfl rfl) rfl rfl hl.1 rfl (lv_room (Nat.le_of_ble_eq_true rfl)) dX12_registers_155 ⟨Nat.zero_le _, Nat.zero_le _⟩) hS (fun q _ h => hFc q h) hFc (fun u_155 t9 H1 locs ht9 hvm9 hw9 hB9 hz9 hk9 hS => ?_)
            have eu_155 : u_155 = fX12_branchTo x_25 v_addr := hw9
            obtain ⟨hP, hD⟩ := back_std (w1 := (wX12_branchTo cI cB a_mo a_mem a_mks a_mr a_cnt a_wd a_one a_two a_mmade a_mrest a_old v_thrown v_mask v_key v_wait v_problem v_code v_length v_cond v_masks u_155 v_mwanted v_wrong v_after v_calls v_oneB v_twoB)) (w2 := (wX12_registers cI cB a_mo a_mem a_mks a_mr a_cnt a_wd a_one a_two a_mmade a_mrest a_old v_thrown v_mask v_key v_wait v_problem v_code v_length v_cond v_masks u_155 v_mwanted v_wrong v_after v_calls v_oneB v_twoB v_mkF f_138 v_wdF)) (wr := [(a_mks, .inl (cI, 4, .inl v_mkF)), (a_mr, .inl (cI, 16, .inl f_138)), (a_wd, .inl (cI, 6, .inl v_wdF))]) hP hD [0] [1, 2, 3] [3, 0, 1, 2] rfl rfl (by decide) (by decide) hk9 hFc hB9 ht9 (by decide) rfl
            clear hB9 hk9 hz9 hvm9 ht9 hFc hPc hDc
            generalize H1 = H at hP hS ⊢
            refine lv_goto (tgt := 245) hx hb dX12_registers_158 (by decide) ?_
            have hf9 : (v_cond, v_masks, u_155, v_wrong, v_after, v_calls, v_mkF, f_138) = fX12_registers x0 v_problem v_length v_cond v_masks v_addr v_wrong v_after v_calls v_mkF v_mrF v_wdF := by subst ef_138; subst ex_25; subst ex_18; subst ex_8; simp only [fX12_registers, ← eu_155]; (try simp only [if_neg c_28_0, if_neg c_28_1, if_pos c_28_2, if_neg c_140, if_neg c_149])
            exact W.vret hx hb hr (fun t9 ht9 hW9 => ⟨⟨(v_cond, v_masks, u_155, v_wrong, v_after, v_calls, v_mkF, f_138), rfl, hf9, ⟨by rw [ht9]; exact hP, va_K.moved hW9.alike hK, hD⟩⟩, hS.F ht9⟩) hS.2.2 dX12_registers_245
      · skip
        by_cases c_28_3 : x0 = 7
        · skip
          refine lv_tableIn (tgt := 161) (off := 133) hx hb dX12_registers_28 (by rw [c_28_3]; decide) (by rw [c_28_3]; decide) (by rw [c_28_3]; rfl) (by decide) ?_
          refine lv_iload_n hx hb dX12_registers_161 rfl (lv_at hl 1 rfl) ?_
          refine lv_if_eq (tgt := 245) hx hb dX12_registers_162 (by decide) (fun c_162 => ?_) (fun c_162 => ?_)
          · skip
            have hf9 : (v_cond, v_masks, v_addr, v_wrong, v_after, v_calls, v_mkF, v_mrF) = fX12_registers x0 v_problem v_length v_cond v_masks v_addr v_wrong v_after v_calls v_mkF v_mrF v_wdF := by subst ex_25; subst ex_18; subst ex_8; simp only [fX12_registers]; (try simp only [if_neg c_28_0, if_neg c_28_1, if_neg c_28_2, if_pos c_28_3, if_pos c_162])
            exact W.vret hx hb hr (fun t9 ht9 hW9 => ⟨⟨(v_cond, v_masks, v_addr, v_wrong, v_after, v_calls, v_mkF, v_mrF), rfl, hf9, ⟨by rw [ht9]; exact hP, va_K.moved hW9.alike hK, hD⟩⟩, hS.F ht9⟩) hS.2.2 dX12_registers_245
          · skip
            refine lv_iload_n hx hb dX12_registers_165 rfl (lv_at hl 2 rfl) ?_
            refine lv_iconst (v := 3) hx hb dX12_registers_166 (by decide) ?_
            refine lv_aload_n hx hb dX12_registers_167 rfl (lv_at hl 3 rfl) ?_
            refine va_get (D := D) (ci := 12) (v := .int v_cond) (C := RX12) (T := TX12) (N := 26) hx hb hts in_X12 hown hK hP 0 rfl rfl 10 (by decide) q_2 (fun _ h9 => h9) rfl dX12_registers_168 ?_
            refine lv_isub hx hb dX12_registers_171 ?_
            refine lv_ishr hx hb dX12_registers_172 ?_
            refine lv_iconst (v := 1) hx hb dX12_registers_173 (by decide) ?_
            refine lv_iand hx hb dX12_registers_174 ?_
            refine lv_iconst (v := 1) hx hb dX12_registers_175 (by decide) ?_
            refine lv_icmp_ne (tgt := 245) hx hb dX12_registers_176 (by decide) (fun c_176 => ?_) (fun c_176 => ?_)
            · skip
              have hf9 : (v_cond, v_masks, v_addr, v_wrong, v_after, v_calls, v_mkF, v_mrF) = fX12_registers x0 v_problem v_length v_cond v_masks v_addr v_wrong v_after v_calls v_mkF v_mrF v_wdF := by subst ex_25; subst ex_18; subst ex_8; simp only [fX12_registers]; (try simp only [if_neg c_28_0, if_neg c_28_1, if_neg c_28_2, if_pos c_28_3, if_neg c_162, if_neg c_176])
              exact W.vret hx hb hr (fun t9 ht9 hW9 => ⟨⟨(v_cond, v_masks, v_addr, v_wrong, v_after, v_calls, v_mkF, v_mrF), rfl, hf9, ⟨by rw [ht9]; exact hP, va_K.moved hW9.alike hK, hD⟩⟩, hS.F ht9⟩) hS.2.2 dX12_registers_245
            · skip
              refine lv_aload_n hx hb dX12_registers_179 rfl (lv_at hl 3 rfl) ?_
              refine lv_iload hx hb dX12_registers_180 (lv_at hl 0 rfl) ?_
              have hPc : va_P D vwCl (wX12_branchTo cI cB a_mo a_mem a_mks a_mr a_cnt a_wd a_one a_two a_mmade a_mrest a_old v_thrown v_mask v_key v_wait v_problem v_code v_length v_cond v_masks v_addr v_mwanted v_wrong v_after v_calls v_oneB v_twoB) H := hP.sub [0] rfl
              have hDc : va_D A (wX12_branchTo cI cB a_mo a_mem a_mks a_mr a_cnt a_wd a_one a_two a_mmade a_mrest a_old v_thrown v_mask v_key v_wait v_problem v_code v_length v_cond v_masks v_addr v_mwanted v_wrong v_after v_calls v_oneB v_twoB) := hD.sub [0] (by decide) rfl
              have hFc := va_free (wc := (wX12_branchTo cI cB a_mo a_mem a_mks a_mr a_cnt a_wd a_one a_two a_mmade a_mrest a_old v_thrown v_mask v_key v_wait v_problem v_code v_length v_cond v_masks v_addr v_mwanted v_wrong v_after v_calls v_oneB v_twoB)) hD hS hA [0] rfl
              refine va_callv (va_runV (As := [.int x_25]) (rest := []) ⟨hx, hb, hml, hown, hts⟩ (kX12_branchTo l D cI cB a_mo a_mem a_mks a_mr a_cnt a_wd a_one a_two a_mmade a_mrest a_old H.size v_thrown v_mask v_key v_wait v_problem v_code v_length v_cond v_masks v_addr v_mwanted v_wrong v_after v_calls v_oneB v_twoB x_25) (cwV 1 hts (gd_V wd_917 wd_918 wd_919 wd_807 wd_911) rfl rfl rfl hdX12_branchTo ⟨Nat.le_of_ble_eq_true rfl, Nat.le_of_ble_eq_true rfl⟩) (preV_std (ci := 12) (q0 := 0) hPc hK hDc hNW rfl rfl) rfl rfl hl.1 rfl (lv_room (Nat.le_of_ble_eq_true rfl)) dX12_registers_182 ⟨Nat.zero_le _, Nat.zero_le _⟩) hS (fun q _ h => hFc q h) hFc (fun u_182 t9 H1 locs ht9 hvm9 hw9 hB9 hz9 hk9 hS => ?_)
              have eu_182 : u_182 = fX12_branchTo x_25 v_addr := hw9
              obtain ⟨hP, hD⟩ := back_std (w1 := (wX12_branchTo cI cB a_mo a_mem a_mks a_mr a_cnt a_wd a_one a_two a_mmade a_mrest a_old v_thrown v_mask v_key v_wait v_problem v_code v_length v_cond v_masks u_182 v_mwanted v_wrong v_after v_calls v_oneB v_twoB)) (w2 := (wX12_registers cI cB a_mo a_mem a_mks a_mr a_cnt a_wd a_one a_two a_mmade a_mrest a_old v_thrown v_mask v_key v_wait v_problem v_code v_length v_cond v_masks u_182 v_mwanted v_wrong v_after v_calls v_oneB v_twoB v_mkF v_mrF v_wdF)) (wr := [(a_mks, .inl (cI, 4, .inl v_mkF)), (a_mr, .inl (cI, 16, .inl v_mrF)), (a_wd, .inl (cI, 6, .inl v_wdF))]) hP hD [0] [1, 2, 3] [3, 0, 1, 2] rfl rfl (by decide) (by decide) hk9 hFc hB9 ht9 (by decide) rfl
              clear hB9 hk9 hz9 hvm9 ht9 hFc hPc hDc
              generalize H1 = H at hP hS ⊢
              refine lv_goto (tgt := 245) hx hb dX12_registers_185 (by decide) ?_
              have hf9 : (v_cond, v_masks, u_182, v_wrong, v_after, v_calls, v_mkF, v_mrF) = fX12_registers x0 v_problem v_length v_cond v_masks v_addr v_wrong v_after v_calls v_mkF v_mrF v_wdF := by subst ex_25; subst ex_18; subst ex_8; simp only [fX12_registers, ← eu_182]; (try simp only [if_neg c_28_0, if_neg c_28_1, if_neg c_28_2, if_pos c_28_3, if_neg c_162, if_pos c_176])
              exact W.vret hx hb hr (fun t9 ht9 hW9 => ⟨⟨(v_cond, v_masks, u_182, v_wrong, v_after, v_calls, v_mkF, v_mrF), rfl, hf9, ⟨by rw [ht9]; exact hP, va_K.moved hW9.alike hK, hD⟩⟩, hS.F ht9⟩) hS.2.2 dX12_registers_245
        · skip
          by_cases c_28_4 : x0 = 8
          · skip
            refine lv_tableIn (tgt := 188) (off := 160) hx hb dX12_registers_28 (by rw [c_28_4]; decide) (by rw [c_28_4]; decide) (by rw [c_28_4]; rfl) (by decide) ?_
            refine lv_aload_n hx hb dX12_registers_188 rfl (lv_at hl 3 rfl) ?_
            refine lv_iload_n hx hb dX12_registers_189 rfl (lv_at hl 2 rfl) ?_
            refine lv_iload_n hx hb dX12_registers_190 rfl (lv_at hl 1 rfl) ?_
            refine lv_iconst (v := 1) hx hb dX12_registers_191 (by decide) ?_
            have hPc : va_P D vwCl (wX12_keyOfBlock cI cB a_mo a_mem a_mks a_mr a_cnt a_wd a_one a_two a_mmade a_mrest a_old v_thrown v_mask v_key v_wait v_problem v_code v_length v_cond v_masks v_addr v_mwanted v_wrong v_after v_calls v_oneB v_twoB v_mkF v_mrF) H := hP.sub [0, 1, 2] rfl
            have hDc : va_D A (wX12_keyOfBlock cI cB a_mo a_mem a_mks a_mr a_cnt a_wd a_one a_two a_mmade a_mrest a_old v_thrown v_mask v_key v_wait v_problem v_code v_length v_cond v_masks v_addr v_mwanted v_wrong v_after v_calls v_oneB v_twoB v_mkF v_mrF) := hD.sub [0, 1, 2] (by decide) rfl
            have hFc := va_free (wc := (wX12_keyOfBlock cI cB a_mo a_mem a_mks a_mr a_cnt a_wd a_one a_two a_mmade a_mrest a_old v_thrown v_mask v_key v_wait v_problem v_code v_length v_cond v_masks v_addr v_mwanted v_wrong v_after v_calls v_oneB v_twoB v_mkF v_mrF)) hD hS hA [0, 1, 2] rfl
            refine va_callv (va_runV (As := [.int x_8, .int x_18, .int 1]) (rest := []) ⟨hx, hb, hml, hown, hts⟩ (kX12_keyOfBlock l D cI cB a_mo a_mem a_mks a_mr a_cnt a_wd a_one a_two a_mmade a_mrest a_old H.size v_thrown v_mask v_key v_wait v_problem v_code v_length v_cond v_masks v_addr v_mwanted v_wrong v_after v_calls v_oneB v_twoB v_mkF v_mrF x_8 x_18 1 (by first | with_reducible assumption | decide | (unfold vp_in; decide)) (by rw [ex_18]; exact pk_andIn _ 4 (by decide) (by decide)) (by first | with_reducible assumption | decide | (unfold vp_in; decide))) (cwV 3 hts (gd_V wd_920 wd_921 wd_922 wd_807 wd_912) rfl rfl rfl hdX12_keyOfBlock ⟨Nat.le_of_ble_eq_true rfl, Nat.le_of_ble_eq_true rfl⟩) (preV_std (ci := 12) (q0 := 0) hPc hK hDc hNW rfl rfl) rfl rfl hl.1 rfl (lv_room (Nat.le_of_ble_eq_true rfl)) dX12_registers_192 ⟨Nat.zero_le _, Nat.zero_le _⟩) hS (fun q _ h => hFc q h) hFc (fun u_192 t9 H1 locs ht9 hvm9 hw9 hB9 hz9 hk9 hS => ?_)
            have eu_192 : u_192 = fX12_keyOfBlock x_8 x_18 1 v_problem v_wrong v_mkF v_mrF := hw9
            obtain ⟨hP, hD⟩ := back_std (w1 := (wX12_keyOfBlock cI cB a_mo a_mem a_mks a_mr a_cnt a_wd a_one a_two a_mmade a_mrest a_old v_thrown v_mask v_key v_wait v_problem v_code v_length v_cond v_masks v_addr v_mwanted u_192.1 v_after v_calls v_oneB v_twoB u_192.2.1 u_192.2.2)) (w2 := (wX12_registers cI cB a_mo a_mem a_mks a_mr a_cnt a_wd a_one a_two a_mmade a_mrest a_old v_thrown v_mask v_key v_wait v_problem v_code v_length v_cond v_masks v_addr v_mwanted u_192.1 v_after v_calls v_oneB v_twoB u_192.2.1 u_192.2.2 v_wdF)) (wr := [(a_wd, .inl (cI, 6, .inl v_wdF))]) hP hD [0, 1, 2] [3] [1, 2, 3, 0] rfl rfl (by decide) (by decide) hk9 hFc hB9 ht9 (by decide) rfl
            clear hB9 hk9 hz9 hvm9 ht9 hFc hPc hDc
            generalize H1 = H at hP hS ⊢
            refine lv_goto (tgt := 245) hx hb dX12_registers_195 (by decide) ?_
            have hf9 : (v_cond, v_masks, v_addr, u_192.1, v_after, v_calls, u_192.2.1, u_192.2.2) = fX12_registers x0 v_problem v_length v_cond v_masks v_addr v_wrong v_after v_calls v_mkF v_mrF v_wdF := by subst ex_25; subst ex_18; subst ex_8; simp only [fX12_registers, ← eu_192]; (try simp only [if_neg c_28_0, if_neg c_28_1, if_neg c_28_2, if_neg c_28_3, if_pos c_28_4])
            exact W.vret hx hb hr (fun t9 ht9 hW9 => ⟨⟨(v_cond, v_masks, v_addr, u_192.1, v_after, v_calls, u_192.2.1, u_192.2.2), rfl, hf9, ⟨by rw [ht9]; exact hP, va_K.moved hW9.alike hK, hD⟩⟩, hS.F ht9⟩) hS.2.2 dX12_registers_245
          · skip
            by_cases c_28_5 : x0 = 9
            · skip
              refine lv_tableIn (tgt := 198) (off := 170) hx hb dX12_registers_28 (by rw [c_28_5]; decide) (by rw [c_28_5]; decide) (by rw [c_28_5]; rfl) (by decide) ?_
              refine lv_aload_n hx hb dX12_registers_198 rfl (lv_at hl 3 rfl) ?_
              refine lv_iload_n hx hb dX12_registers_199 rfl (lv_at hl 2 rfl) ?_
              refine lv_iload_n hx hb dX12_registers_200 rfl (lv_at hl 1 rfl) ?_
              refine lv_iconst (v := 0) hx hb dX12_registers_201 (by decide) ?_
              have hPc : va_P D vwCl (wX12_keyOfBlock cI cB a_mo a_mem a_mks a_mr a_cnt a_wd a_one a_two a_mmade a_mrest a_old v_thrown v_mask v_key v_wait v_problem v_code v_length v_cond v_masks v_addr v_mwanted v_wrong v_after v_calls v_oneB v_twoB v_mkF v_mrF) H := hP.sub [0, 1, 2] rfl
              have hDc : va_D A (wX12_keyOfBlock cI cB a_mo a_mem a_mks a_mr a_cnt a_wd a_one a_two a_mmade a_mrest a_old v_thrown v_mask v_key v_wait v_problem v_code v_length v_cond v_masks v_addr v_mwanted v_wrong v_after v_calls v_oneB v_twoB v_mkF v_mrF) := hD.sub [0, 1, 2] (by decide) rfl
              have hFc := va_free (wc := (wX12_keyOfBlock cI cB a_mo a_mem a_mks a_mr a_cnt a_wd a_one a_two a_mmade a_mrest a_old v_thrown v_mask v_key v_wait v_problem v_code v_length v_cond v_masks v_addr v_mwanted v_wrong v_after v_calls v_oneB v_twoB v_mkF v_mrF)) hD hS hA [0, 1, 2] rfl
              refine va_callv (va_runV (As := [.int x_8, .int x_18, .int 0]) (rest := []) ⟨hx, hb, hml, hown, hts⟩ (kX12_keyOfBlock l D cI cB a_mo a_mem a_mks a_mr a_cnt a_wd a_one a_two a_mmade a_mrest a_old H.size v_thrown v_mask v_key v_wait v_problem v_code v_length v_cond v_masks v_addr v_mwanted v_wrong v_after v_calls v_oneB v_twoB v_mkF v_mrF x_8 x_18 0 (by first | with_reducible assumption | decide | (unfold vp_in; decide)) (by rw [ex_18]; exact pk_andIn _ 4 (by decide) (by decide)) (by first | with_reducible assumption | decide | (unfold vp_in; decide))) (cwV 3 hts (gd_V wd_920 wd_921 wd_922 wd_807 wd_912) rfl rfl rfl hdX12_keyOfBlock ⟨Nat.le_of_ble_eq_true rfl, Nat.le_of_ble_eq_true rfl⟩) (preV_std (ci := 12) (q0 := 0) hPc hK hDc hNW rfl rfl) rfl rfl hl.1 rfl (lv_room (Nat.le_of_ble_eq_true rfl)) dX12_registers_202 ⟨Nat.zero_le _, Nat.zero_le _⟩) hS (fun q _ h => hFc q h) hFc (fun u_202 t9 H1 locs ht9 hvm9 hw9 hB9 hz9 hk9 hS => ?_)
              have eu_202 : u_202 = fX12_keyOfBlock x_8 x_18 0 v_problem v_wrong v_mkF v_mrF := hw9
              obtain ⟨hP, hD⟩ := back_std (w1 := (wX12_keyOfBlock cI cB a_mo a_mem a_mks a_mr a_cnt a_wd a_one a_two a_mmade a_mrest a_old v_thrown v_mask v_key v_wait v_problem v_code v_length v_cond v_masks v_addr v_mwanted u_202.1 v_after v_calls v_oneB v_twoB u_202.2.1 u_202.2.2)) (w2 := (wX12_registers cI cB a_mo a_mem a_mks a_mr a_cnt a_wd a_one a_two a_mmade a_mrest a_old v_thrown v_mask v_key v_wait v_problem v_code v_length v_cond v_masks v_addr v_mwanted u_202.1 v_after v_calls v_oneB v_twoB u_202.2.1 u_202.2.2 v_wdF)) (wr := [(a_wd, .inl (cI, 6, .inl v_wdF))]) hP hD [0, 1, 2] [3] [1, 2, 3, 0] rfl rfl (by decide) (by decide) hk9 hFc hB9 ht9 (by decide) rfl
              clear hB9 hk9 hz9 hvm9 ht9 hFc hPc hDc
              generalize H1 = H at hP hS ⊢
              refine lv_goto (tgt := 245) hx hb dX12_registers_205 (by decide) ?_
              have hf9 : (v_cond, v_masks, v_addr, u_202.1, v_after, v_calls, u_202.2.1, u_202.2.2) = fX12_registers x0 v_problem v_length v_cond v_masks v_addr v_wrong v_after v_calls v_mkF v_mrF v_wdF := by subst ex_25; subst ex_18; subst ex_8; simp only [fX12_registers, ← eu_202]; (try simp only [if_neg c_28_0, if_neg c_28_1, if_neg c_28_2, if_neg c_28_3, if_neg c_28_4, if_pos c_28_5])
              exact W.vret hx hb hr (fun t9 ht9 hW9 => ⟨⟨(v_cond, v_masks, v_addr, u_202.1, v_after, v_calls, u_202.2.1, u_202.2.2), rfl, hf9, ⟨by rw [ht9]; exact hP, va_K.moved hW9.alike hK, hD⟩⟩, hS.F ht9⟩) hS.2.2 dX12_registers_245
            · skip
              by_cases c_28_6 : x0 = 10
              · skip
                refine lv_tableIn (tgt := 208) (off := 180) hx hb dX12_registers_28 (by rw [c_28_6]; decide) (by rw [c_28_6]; decide) (by rw [c_28_6]; rfl) (by decide) ?_
                refine lv_aload_n hx hb dX12_registers_208 rfl (lv_at hl 3 rfl) ?_
                refine lv_iconst (v := 1) hx hb dX12_registers_209 (by decide) ?_
                refine va_put (D := D) (ci := 12) (v := .int 1) (ty := .boolean) (C := RX12) (T := TX12) (N := 26) hx hb hts in_X12 tyX12 tyX12_ok nmX12 hown hK hP hD hS 0 rfl rfl 18 (by decide) q_4 (fun _ h9 => h9) rfl (by decide +kernel) rfl rfl (Nat.le_of_ble_eq_true rfl) dX12_registers_210 (fun H locs hP hD hS => ?_)
                have hP : va_P D vwCl (wX12_registers cI cB a_mo a_mem a_mks a_mr a_cnt a_wd a_one a_two a_mmade a_mrest a_old v_thrown v_mask v_key v_wait v_problem v_code v_length v_cond v_masks v_addr v_mwanted v_wrong v_after 1 v_oneB v_twoB v_mkF v_mrF v_wdF) H := hP
                have hD : va_D A (wX12_registers cI cB a_mo a_mem a_mks a_mr a_cnt a_wd a_one a_two a_mmade a_mrest a_old v_thrown v_mask v_key v_wait v_problem v_code v_length v_cond v_masks v_addr v_mwanted v_wrong v_after 1 v_oneB v_twoB v_mkF v_mrF v_wdF) := hD
                refine lv_goto (tgt := 245) hx hb dX12_registers_213 (by decide) ?_
                have hf9 : (v_cond, v_masks, v_addr, v_wrong, v_after, 1, v_mkF, v_mrF) = fX12_registers x0 v_problem v_length v_cond v_masks v_addr v_wrong v_after v_calls v_mkF v_mrF v_wdF := by subst ex_25; subst ex_18; subst ex_8; simp only [fX12_registers]; (try simp only [if_neg c_28_0, if_neg c_28_1, if_neg c_28_2, if_neg c_28_3, if_neg c_28_4, if_neg c_28_5, if_pos c_28_6])
                exact W.vret hx hb hr (fun t9 ht9 hW9 => ⟨⟨(v_cond, v_masks, v_addr, v_wrong, v_after, 1, v_mkF, v_mrF), rfl, hf9, ⟨by rw [ht9]; exact hP, va_K.moved hW9.alike hK, hD⟩⟩, hS.F ht9⟩) hS.2.2 dX12_registers_245
              · skip
                refine sw_def (tgt := 216) hx hb [4, 5, 6, 7, 8, 9, 10] dX12_registers_28 (by decide) (by decide) ?_ (by decide) ?_
                · intro v hv he
                  simp only [List.mem_cons, List.not_mem_nil, or_false] at hv
                  have hx9 : x0 = Int32.ofInt v := by rw [← he, Int32.ofInt_toInt]
                  revert hx9
                  rcases hv with rfl | rfl | rfl | rfl | rfl | rfl | rfl <;> intro hx9 <;> first | exact c_28_0 (by rw [hx9]; decide) | exact c_28_1 (by rw [hx9]; decide) | exact c_28_2 (by rw [hx9]; decide) | exact c_28_3 (by rw [hx9]; decide) | exact c_28_4 (by rw [hx9]; decide) | exact c_28_5 (by rw [hx9]; decide) | exact c_28_6 (by rw [hx9]; decide)
                · skip
                  refine lv_iload_n hx hb dX12_registers_216 rfl (lv_at hl 4 rfl) ?_
                  refine lv_bipush (v := 16) hx hb dX12_registers_217 (by decide) ?_
                  refine lv_icmp_ge (tgt := 230) hx hb dX12_registers_219 (by decide) (fun c_219 => ?_) (fun c_219 => ?_)
                  · skip
                    refine lv_aload_n hx hb dX12_registers_230 rfl (lv_at hl 3 rfl) ?_
                    refine lv_iload_n hx hb dX12_registers_231 rfl (lv_at hl 4 rfl) ?_
                    refine lv_bipush (v := 16) hx hb dX12_registers_232 (by decide) ?_
                    refine lv_isub hx hb dX12_registers_234 ?_
                    refine lv_iload_n hx hb dX12_registers_235 rfl (lv_at hl 2 rfl) ?_
                    refine lv_aload_n hx hb dX12_registers_236 rfl (lv_at hl 3 rfl) ?_
                    refine va_get (D := D) (ci := 12) (v := .ref a_mr) (C := RX12) (T := TX12) (N := 26) hx hb hts in_X12 hown hK hP 0 rfl rfl 3 (by decide) q_1 (fun _ h9 => h9) rfl dX12_registers_237 ?_
                    refine lv_iload_n hx hb dX12_registers_240 rfl (lv_at hl 1 rfl) ?_
                    refine va_iald hx hb hK hP 2 0 rfl rfl (by rw [ex_18]; exact pk_andIn _ 4 (by decide) (by decide)) dX12_registers_241 ?_
                    have hPc : va_P D vwCl (wX12_reckon cI cB a_mo a_mem a_mks a_mr a_cnt a_wd a_one a_two a_mmade a_mrest a_old v_thrown v_mask v_key v_wait v_problem v_code v_length v_cond v_masks v_addr v_mwanted v_wrong v_after v_calls v_oneB v_twoB v_mrF) H := hP.sub [0, 2] rfl
                    have hDc : va_D A (wX12_reckon cI cB a_mo a_mem a_mks a_mr a_cnt a_wd a_one a_two a_mmade a_mrest a_old v_thrown v_mask v_key v_wait v_problem v_code v_length v_cond v_masks v_addr v_mwanted v_wrong v_after v_calls v_oneB v_twoB v_mrF) := hD.sub [0, 2] (by decide) rfl
                    have hFc := va_free (wc := (wX12_reckon cI cB a_mo a_mem a_mks a_mr a_cnt a_wd a_one a_two a_mmade a_mrest a_old v_thrown v_mask v_key v_wait v_problem v_code v_length v_cond v_masks v_addr v_mwanted v_wrong v_after v_calls v_oneB v_twoB v_mrF)) hD hS hA [0, 2] rfl
                    refine va_callv (va_runV (As := [.int (x0 - 16), .int x_8, .int ((v_mrF (x_18 : Int32).toNatClampNeg))]) (rest := []) ⟨hx, hb, hml, hown, hts⟩ (kX12_reckon l D cI cB a_mo a_mem a_mks a_mr a_cnt a_wd a_one a_two a_mmade a_mrest a_old H.size v_thrown v_mask v_key v_wait v_problem v_code v_length v_cond v_masks v_addr v_mwanted v_wrong v_after v_calls v_oneB v_twoB v_mrF (x0 - 16) x_8 (v_mrF (x_18 : Int32).toNatClampNeg) (by first | with_reducible assumption | decide | (unfold vp_in; decide)) (by first | with_reducible assumption | decide | (unfold vp_in; decide))) (cwV 3 hts (gd_V wd_923 wd_924 wd_925 wd_807 wd_886) rfl rfl rfl hdX12_reckon ⟨Nat.le_of_ble_eq_true rfl, Nat.le_of_ble_eq_true rfl⟩) (preV_std (ci := 12) (q0 := 0) hPc hK hDc hNW rfl rfl) rfl rfl hl.1 rfl (lv_room (Nat.le_of_ble_eq_true rfl)) dX12_registers_242 ⟨Nat.zero_le _, Nat.zero_le _⟩) hS (fun q _ h => hFc q h) hFc (fun u_242 t9 H1 locs ht9 hvm9 hw9 hB9 hz9 hk9 hS => ?_)
                    have eu_242 : u_242 = fX12_reckon (x0 - 16) x_8 (v_mrF (x_18 : Int32).toNatClampNeg) v_cond v_masks v_wrong v_after v_mrF := hw9
                    obtain ⟨hP, hD⟩ := back_std (w1 := (wX12_reckon cI cB a_mo a_mem a_mks a_mr a_cnt a_wd a_one a_two a_mmade a_mrest a_old v_thrown v_mask v_key v_wait v_problem v_code v_length u_242.1 v_masks v_addr v_mwanted u_242.2.1 u_242.2.2.1 v_calls v_oneB v_twoB u_242.2.2.2)) (w2 := (wX12_registers cI cB a_mo a_mem a_mks a_mr a_cnt a_wd a_one a_two a_mmade a_mrest a_old v_thrown v_mask v_key v_wait v_problem v_code v_length u_242.1 v_masks v_addr v_mwanted u_242.2.1 u_242.2.2.1 v_calls v_oneB v_twoB v_mkF u_242.2.2.2 v_wdF)) (wr := [(a_mks, .inl (cI, 4, .inl v_mkF)), (a_wd, .inl (cI, 6, .inl v_wdF))]) hP hD [0, 2] [1, 3] [2, 0, 3, 1] rfl rfl (by decide) (by decide) hk9 hFc hB9 ht9 (by decide) rfl
                    clear hB9 hk9 hz9 hvm9 ht9 hFc hPc hDc
                    generalize H1 = H at hP hS ⊢
                    have hf9 : (u_242.1, v_masks, v_addr, u_242.2.1, u_242.2.2.1, v_calls, v_mkF, u_242.2.2.2) = fX12_registers x0 v_problem v_length v_cond v_masks v_addr v_wrong v_after v_calls v_mkF v_mrF v_wdF := by subst ex_25; subst ex_18; subst ex_8; simp only [fX12_registers, ← eu_242]; (try simp only [if_neg c_28_0, if_neg c_28_1, if_neg c_28_2, if_neg c_28_3, if_neg c_28_4, if_neg c_28_5, if_neg c_28_6, if_pos c_219])
                    exact W.vret hx hb hr (fun t9 ht9 hW9 => ⟨⟨(u_242.1, v_masks, v_addr, u_242.2.1, u_242.2.2.1, v_calls, v_mkF, u_242.2.2.2), rfl, hf9, ⟨by rw [ht9]; exact hP, va_K.moved hW9.alike hK, hD⟩⟩, hS.F ht9⟩) hS.2.2 dX12_registers_245
                  · skip
                    refine lv_aload_n hx hb dX12_registers_222 rfl (lv_at hl 3 rfl) ?_
                    refine lv_iconst (v := 1) hx hb dX12_registers_223 (by decide) ?_
                    have hPc : va_P D vwCl (wX12_meet cI cB a_mo a_mem a_mks a_mr a_cnt a_wd a_one a_two a_mmade a_mrest a_old v_thrown v_mask v_key v_wait v_problem v_code v_length v_cond v_masks v_addr v_mwanted v_wrong v_after v_calls v_oneB v_twoB) H := hP.sub [0] rfl
                    have hDc : va_D A (wX12_meet cI cB a_mo a_mem a_mks a_mr a_cnt a_wd a_one a_two a_mmade a_mrest a_old v_thrown v_mask v_key v_wait v_problem v_code v_length v_cond v_masks v_addr v_mwanted v_wrong v_after v_calls v_oneB v_twoB) := hD.sub [0] (by decide) rfl
                    have hFc := va_free (wc := (wX12_meet cI cB a_mo a_mem a_mks a_mr a_cnt a_wd a_one a_two a_mmade a_mrest a_old v_thrown v_mask v_key v_wait v_problem v_code v_length v_cond v_masks v_addr v_mwanted v_wrong v_after v_calls v_oneB v_twoB)) hD hS hA [0] rfl
                    refine va_callv (va_runV (As := [.int 1]) (rest := []) ⟨hx, hb, hml, hown, hts⟩ (kX12_meet l D cI cB a_mo a_mem a_mks a_mr a_cnt a_wd a_one a_two a_mmade a_mrest a_old H.size v_thrown v_mask v_key v_wait v_problem v_code v_length v_cond v_masks v_addr v_mwanted v_wrong v_after v_calls v_oneB v_twoB 1) (cwV 1 hts (gd_V wd_838 wd_839 wd_840 wd_807 wd_835) rfl rfl rfl hdX12_meet ⟨Nat.le_of_ble_eq_true rfl, Nat.le_of_ble_eq_true rfl⟩) (preV_std (ci := 12) (q0 := 0) hPc hK hDc hNW rfl rfl) rfl rfl hl.1 rfl (lv_room (Nat.le_of_ble_eq_true rfl)) dX12_registers_224 ⟨Nat.zero_le _, Nat.zero_le _⟩) hS (fun q _ h => hFc q h) hFc (fun u_224 t9 H1 locs ht9 hvm9 hw9 hB9 hz9 hk9 hS => ?_)
                    have eu_224 : u_224 = fX12_meet 1 v_wrong := hw9
                    obtain ⟨hP, hD⟩ := back_std (w1 := (wX12_meet cI cB a_mo a_mem a_mks a_mr a_cnt a_wd a_one a_two a_mmade a_mrest a_old v_thrown v_mask v_key v_wait v_problem v_code v_length v_cond v_masks v_addr v_mwanted u_224 v_after v_calls v_oneB v_twoB)) (w2 := (wX12_registers cI cB a_mo a_mem a_mks a_mr a_cnt a_wd a_one a_two a_mmade a_mrest a_old v_thrown v_mask v_key v_wait v_problem v_code v_length v_cond v_masks v_addr v_mwanted u_224 v_after v_calls v_oneB v_twoB v_mkF v_mrF v_wdF)) (wr := [(a_mks, .inl (cI, 4, .inl v_mkF)), (a_mr, .inl (cI, 16, .inl v_mrF)), (a_wd, .inl (cI, 6, .inl v_wdF))]) hP hD [0] [1, 2, 3] [3, 0, 1, 2] rfl rfl (by decide) (by decide) hk9 hFc hB9 ht9 (by decide) rfl
                    clear hB9 hk9 hz9 hvm9 ht9 hFc hPc hDc
                    generalize H1 = H at hP hS ⊢
                    refine lv_goto (tgt := 245) hx hb dX12_registers_227 (by decide) ?_
                    have hf9 : (v_cond, v_masks, v_addr, u_224, v_after, v_calls, v_mkF, v_mrF) = fX12_registers x0 v_problem v_length v_cond v_masks v_addr v_wrong v_after v_calls v_mkF v_mrF v_wdF := by subst ex_25; subst ex_18; subst ex_8; simp only [fX12_registers, ← eu_224]; (try simp only [if_neg c_28_0, if_neg c_28_1, if_neg c_28_2, if_neg c_28_3, if_neg c_28_4, if_neg c_28_5, if_neg c_28_6, if_neg c_219])
                    exact W.vret hx hb hr (fun t9 ht9 hW9 => ⟨⟨(v_cond, v_masks, v_addr, u_224, v_after, v_calls, v_mkF, v_mrF), rfl, hf9, ⟨by rw [ht9]; exact hP, va_K.moved hW9.alike hK, hD⟩⟩, hS.F ht9⟩) hS.2.2 dX12_registers_245
theorem hdX12_registers : yX12_registers.cls = RX12 ∧ yX12_registers.cls ≠ "java/lang/invoke/MethodHandle" ∧ yX12_registers.cls ≠ "java/lang/invoke/VarHandle" ∧ (parseMethodDescriptor yX12_registers.desc).map (fun d => d.parameters.length) = some 1 := by decide +kernel
noncomputable def fX12_withMemory (x0 : Int32) (x1 : Int32) (x2 : Int32) (v_key : Int32) (v_cond : Int32) (v_masks : Int32) (v_wrong : Int32) (v_after : Int32) (v_mF : (Nat → Int32)) (v_mkF : (Nat → Int32)) (v_mrF : (Nat → Int32)) : (Int32 × Int32 × Int32 × (Nat → Int32)) :=
  let m_11 : Int32 := (if 80 ≤ x0 then (0) else (1))
  let m_29 : Int32 := (if m_11 = 0 then ((x0 - 80)) else ((x0 - 64)))
  let m_63 : Int32 := (if m_11 = 0 then (if m_29 = 12 then (if (x1 - x1 / 2 * 2) = 1 then (let u_60 := fX12_meet 6 v_wrong; u_60) else (v_wrong)) else (if m_29 = 13 then (if (x1 - x1 / 2 * 2) = 1 then (let u_60 := fX12_meet 6 v_wrong; u_60) else (v_wrong)) else (v_wrong))) else (v_wrong))
  let m_75 : Int32 := (if m_11 = 0 then (4) else (2))
  let p_75 := fX12_operand x2 m_75 v_key m_63 v_mF v_mkF
  let r_75 := p_75.1
  let u_75 := p_75.2
  if u_75 ≤ 0 then (if m_11 = 0 then (let u_124 := fX12_reckon m_29 x1 r_75 v_cond v_masks u_75 v_after v_mrF; (u_124.1, u_124.2.1, u_124.2.2.1, u_124.2.2.2)) else (if m_29 = 12 then (let f_114 := upd v_mrF (x1 : Int32).toNatClampNeg (((v_mrF (x1 : Int32).toNatClampNeg) * r_75)); (v_cond, u_75, v_after, f_114)) else (let u_124 := fX12_reckon m_29 x1 r_75 v_cond v_masks u_75 v_after v_mrF; (u_124.1, u_124.2.1, u_124.2.2.1, u_124.2.2.2)))) else ((v_cond, u_75, v_after, v_mrF))
abbrev wX12_withMemory (cI cB : ClassId) (a_mo a_mem a_mks a_mr a_cnt a_wd a_one a_two a_mmade a_mrest a_old : Nat) (v_thrown : Int32) (v_mask : Int32) (v_key : Int32) (v_wait : Int32) (v_problem : Int32) (v_code : Int32) (v_length : Int32) (v_cond : Int32) (v_masks : Int32) (v_addr : Int32) (v_mwanted : Int32) (v_wrong : Int32) (v_after : Int32) (v_calls : Int32) (v_oneB : Int32) (v_twoB : Int32) (v_mF : (Nat → Int32)) (v_mkF : (Nat → Int32)) (v_mrF : (Nat → Int32)) : va_W := [(a_mo, .inr (12, [.int v_thrown, .ref a_mem, .ref a_mks, .ref a_mr, .int v_mask, .int v_key, .int v_wait, .int v_problem, .int v_code, .int v_length, .int v_cond, .int v_masks, .int v_addr, .int v_mwanted, .ref a_cnt, .ref a_wd, .int v_wrong, .int v_after, .int v_calls, .ref a_one, .int v_oneB, .ref a_two, .int v_twoB, .ref a_mmade, .ref a_mrest, .ref a_old])), (a_mem, .inl (cI, 8192, .inl v_mF)), (a_mks, .inl (cI, 4, .inl v_mkF)), (a_mr, .inl (cI, 16, .inl v_mrF))]
abbrev rmX12_withMemory : Room := { frames := 4, cells := 0, slots := 0, locals := 94 }
abbrev qX12_withMemory (D : va_G) (cI cB : ClassId) (a_mo a_mem a_mks a_mr a_cnt a_wd a_one a_two a_mmade a_mrest a_old : Nat) (v_thrown : Int32) (v_mask : Int32) (v_key : Int32) (v_wait : Int32) (v_problem : Int32) (v_code : Int32) (v_length : Int32) (v_cond : Int32) (v_masks : Int32) (v_addr : Int32) (v_mwanted : Int32) (v_wrong : Int32) (v_after : Int32) (v_calls : Int32) (v_oneB : Int32) (v_twoB : Int32) (v_mF : (Nat → Int32)) (v_mkF : (Nat → Int32)) (v_mrF : (Nat → Int32)) (x0 : Int32) (x1 : Int32) (x2 : Int32) : (Nat → Prop) → Array Value → State → Outcome → State → Prop := fun A9 => va_Qv (fun (u9 : (Int32 × Int32 × Int32 × (Nat → Int32))) => u9 = fX12_withMemory x0 x1 x2 v_key v_cond v_masks v_wrong v_after v_mF v_mkF v_mrF) (fun u9 t9 => atW D (TYS cI cB) A9 (wX12_withMemory cI cB a_mo a_mem a_mks a_mr a_cnt a_wd a_one a_two a_mmade a_mrest a_old v_thrown v_mask v_key v_wait v_problem v_code v_length u9.1 v_masks v_addr v_mwanted u9.2.1 u9.2.2.1 v_calls v_oneB v_twoB v_mF v_mkF u9.2.2.2) t9) A9
set_option maxHeartbeats 4000000 in
set_option maxRecDepth 100000 in
theorem kX12_withMemory (l : Launch) (D : va_G) (cI cB : ClassId) (a_mo a_mem a_mks a_mr a_cnt a_wd a_one a_two a_mmade a_mrest a_old : Nat) (sz : Nat) (v_thrown : Int32) (v_mask : Int32) (v_key : Int32) (v_wait : Int32) (v_problem : Int32) (v_code : Int32) (v_length : Int32) (v_cond : Int32) (v_masks : Int32) (v_addr : Int32) (v_mwanted : Int32) (v_wrong : Int32) (v_after : Int32) (v_calls : Int32) (v_oneB : Int32) (v_twoB : Int32) (v_mF : (Nat → Int32)) (v_mkF : (Nat → Int32)) (v_mrF : (Nat → Int32)) (x0 : Int32) (x1 : Int32) (x2 : Int32) (hk : vp_in x1 16) (ha : in24 x2) (hw : 0 ≤ v_wrong) : MetW l yX12_withMemory (WK yX12_withMemory cX12_withMemory 7 none) rmX12_withMemory D (TYS cI cB) (wX12_withMemory cI cB a_mo a_mem a_mks a_mr a_cnt a_wd a_one a_two a_mmade a_mrest a_old v_thrown v_mask v_key v_wait v_problem v_code v_length v_cond v_masks v_addr v_mwanted v_wrong v_after v_calls v_oneB v_twoB v_mF v_mkF v_mrF) sz [.ref a_mo, .int x0, .int x1, .int x2] (qX12_withMemory D cI cB a_mo a_mem a_mks a_mr a_cnt a_wd a_one a_two a_mmade a_mrest a_old v_thrown v_mask v_key v_wait v_problem v_code v_length v_cond v_masks v_addr v_mwanted v_wrong v_after v_calls v_oneB v_twoB v_mF v_mkF v_mrF x0 x1 x2) 0 0 := by
  refine met_std (by decide) rfl (Nat.le_of_ble_eq_true rfl) ?_
  intro p e s m below meth c A ls H hx hb hr hml hown hts hlocks hA hP hK hD hS hNW hl
  have hl : lv_has ls 7 [(0, .ref a_mo), (1, .int x0), (2, .int x1), (3, .int x2)] := hl
  have q_0 := hts _ (List.mem_cons_of_mem _ wd_836)
  have q_1 := hts _ (List.mem_cons_of_mem _ wd_779)
  refine lv_iload_n hx hb dX12_withMemory_0 rfl (lv_at hl 1 rfl) ?_
  refine lv_bipush (v := 80) hx hb dX12_withMemory_1 (by decide) ?_
  have J_11 : ∀ (m_11 : Int32), m_11 = (if 80 ≤ x0 then (0) else (1)) → ∀ (H : Heap) (locs : List Loc), va_P D vwCl (wX12_withMemory cI cB a_mo a_mem a_mks a_mr a_cnt a_wd a_one a_two a_mmade a_mrest a_old v_thrown v_mask v_key v_wait v_problem v_code v_length v_cond v_masks v_addr v_mwanted v_wrong v_after v_calls v_oneB v_twoB v_mF v_mkF v_mrF) H → va_D A (wX12_withMemory cI cB a_mo a_mem a_mks a_mr a_cnt a_wd a_one a_two a_mmade a_mrest a_old v_thrown v_mask v_key v_wait v_problem v_code v_length v_cond v_masks v_addr v_mwanted v_wrong v_after v_calls v_oneB v_twoB v_mF v_mkF v_mrF) → va_S A s.heap H locs → ∀ (ls : Array Slot), lv_has ls 7 [(0, .ref a_mo), (1, .int x0), (2, .int x1), (3, .int x2)] → W p l e rmX12_withMemory s m ([.ref a_mo, .int x0, .int x1, .int x2] : List Value).toArray below meth c H locs 0 0 (MQ below (qX12_withMemory D cI cB a_mo a_mem a_mks a_mr a_cnt a_wd a_one a_two a_mmade a_mrest a_old v_thrown v_mask v_key v_wait v_problem v_code v_length v_cond v_masks v_addr v_mwanted v_wrong v_after v_calls v_oneB v_twoB v_mF v_mkF v_mrF x0 x1 x2 A) ([.ref a_mo, .int x0, .int x1, .int x2] : List Value).toArray s 0 0 A) (F0 m 11 ls [.int m_11]) := by
    intro m_11 em_11 H locs hP hD hS ls hl
    try dsimp only at em_11
    have zm_11_0 : m_11 = 0 ∨ m_11 = 1 := by rw [em_11]; (try dsimp only); (repeat' split) <;> first | exact Or.inl rfl | exact Or.inr rfl
    refine lv_istore (lv' := [(4, .int m_11), (0, .ref a_mo), (1, .int x0), (2, .int x1), (3, .int x2)]) hx hb dX12_withMemory_11 hl (by decide) rfl (fun ls hl => ?_)
    refine lv_iload hx hb dX12_withMemory_13 (lv_at hl 0 rfl) ?_
    have J_29 : ∀ (m_29 : Int32), m_29 = (if m_11 = 0 then ((x0 - 80)) else ((x0 - 64))) → ∀ (H : Heap) (locs : List Loc), va_P D vwCl (wX12_withMemory cI cB a_mo a_mem a_mks a_mr a_cnt a_wd a_one a_two a_mmade a_mrest a_old v_thrown v_mask v_key v_wait v_problem v_code v_length v_cond v_masks v_addr v_mwanted v_wrong v_after v_calls v_oneB v_twoB v_mF v_mkF v_mrF) H → va_D A (wX12_withMemory cI cB a_mo a_mem a_mks a_mr a_cnt a_wd a_one a_two a_mmade a_mrest a_old v_thrown v_mask v_key v_wait v_problem v_code v_length v_cond v_masks v_addr v_mwanted v_wrong v_after v_calls v_oneB v_twoB v_mF v_mkF v_mrF) → va_S A s.heap H locs → ∀ (ls : Array Slot), lv_has ls 7 [(0, .ref a_mo), (1, .int x0), (2, .int x1), (3, .int x2), (4, .int m_11)] → W p l e rmX12_withMemory s m ([.ref a_mo, .int x0, .int x1, .int x2] : List Value).toArray below meth c H locs 0 0 (MQ below (qX12_withMemory D cI cB a_mo a_mem a_mks a_mr a_cnt a_wd a_one a_two a_mmade a_mrest a_old v_thrown v_mask v_key v_wait v_problem v_code v_length v_cond v_masks v_addr v_mwanted v_wrong v_after v_calls v_oneB v_twoB v_mF v_mkF v_mrF x0 x1 x2 A) ([.ref a_mo, .int x0, .int x1, .int x2] : List Value).toArray s 0 0 A) (F0 m 29 ls [.int m_29]) := by
      intro m_29 em_29 H locs hP hD hS ls hl
      try dsimp only at em_29
      refine lv_istore (lv' := [(5, .int m_29), (0, .ref a_mo), (1, .int x0), (2, .int x1), (3, .int x2), (4, .int m_11)]) hx hb dX12_withMemory_29 hl (by decide) rfl (fun ls hl => ?_)
      refine lv_iload hx hb dX12_withMemory_31 (lv_at hl 5 rfl) ?_
      have J_63 : ∀ (m_63 : Int32), m_63 = (if m_11 = 0 then (if m_29 = 12 then (if (x1 - x1 / 2 * 2) = 1 then (let u_60 := fX12_meet 6 v_wrong; u_60) else (v_wrong)) else (if m_29 = 13 then (if (x1 - x1 / 2 * 2) = 1 then (let u_60 := fX12_meet 6 v_wrong; u_60) else (v_wrong)) else (v_wrong))) else (v_wrong)) → ∀ (H : Heap) (locs : List Loc), va_P D vwCl (wX12_withMemory cI cB a_mo a_mem a_mks a_mr a_cnt a_wd a_one a_two a_mmade a_mrest a_old v_thrown v_mask v_key v_wait v_problem v_code v_length v_cond v_masks v_addr v_mwanted m_63 v_after v_calls v_oneB v_twoB v_mF v_mkF v_mrF) H → va_D A (wX12_withMemory cI cB a_mo a_mem a_mks a_mr a_cnt a_wd a_one a_two a_mmade a_mrest a_old v_thrown v_mask v_key v_wait v_problem v_code v_length v_cond v_masks v_addr v_mwanted m_63 v_after v_calls v_oneB v_twoB v_mF v_mkF v_mrF) → va_S A s.heap H locs → ∀ (ls : Array Slot), lv_has ls 7 [(0, .ref a_mo), (1, .int x0), (2, .int x1), (3, .int x2), (4, .int m_11), (5, .int m_29)] → W p l e rmX12_withMemory s m ([.ref a_mo, .int x0, .int x1, .int x2] : List Value).toArray below meth c H locs 0 0 (MQ below (qX12_withMemory D cI cB a_mo a_mem a_mks a_mr a_cnt a_wd a_one a_two a_mmade a_mrest a_old v_thrown v_mask v_key v_wait v_problem v_code v_length v_cond v_masks v_addr v_mwanted v_wrong v_after v_calls v_oneB v_twoB v_mF v_mkF v_mrF x0 x1 x2 A) ([.ref a_mo, .int x0, .int x1, .int x2] : List Value).toArray s 0 0 A) (F0 m 63 ls []) := by
        intro m_63 em_63 H locs hP hD hS ls hl
        try dsimp only at em_63
        refine lv_aload_n hx hb dX12_withMemory_63 rfl (lv_at hl 0 rfl) ?_
        refine lv_iload_n hx hb dX12_withMemory_64 rfl (lv_at hl 3 rfl) ?_
        refine lv_iload hx hb dX12_withMemory_65 (lv_at hl 4 rfl) ?_
        have J_75 : ∀ (m_75 : Int32), m_75 = (if m_11 = 0 then (4) else (2)) → ∀ (H : Heap) (locs : List Loc), va_P D vwCl (wX12_withMemory cI cB a_mo a_mem a_mks a_mr a_cnt a_wd a_one a_two a_mmade a_mrest a_old v_thrown v_mask v_key v_wait v_problem v_code v_length v_cond v_masks v_addr v_mwanted m_63 v_after v_calls v_oneB v_twoB v_mF v_mkF v_mrF) H → va_D A (wX12_withMemory cI cB a_mo a_mem a_mks a_mr a_cnt a_wd a_one a_two a_mmade a_mrest a_old v_thrown v_mask v_key v_wait v_problem v_code v_length v_cond v_masks v_addr v_mwanted m_63 v_after v_calls v_oneB v_twoB v_mF v_mkF v_mrF) → va_S A s.heap H locs → ∀ (ls : Array Slot), lv_has ls 7 [(0, .ref a_mo), (1, .int x0), (2, .int x1), (3, .int x2), (4, .int m_11), (5, .int m_29)] → W p l e rmX12_withMemory s m ([.ref a_mo, .int x0, .int x1, .int x2] : List Value).toArray below meth c H locs 0 0 (MQ below (qX12_withMemory D cI cB a_mo a_mem a_mks a_mr a_cnt a_wd a_one a_two a_mmade a_mrest a_old v_thrown v_mask v_key v_wait v_problem v_code v_length v_cond v_masks v_addr v_mwanted v_wrong v_after v_calls v_oneB v_twoB v_mF v_mkF v_mrF x0 x1 x2 A) ([.ref a_mo, .int x0, .int x1, .int x2] : List Value).toArray s 0 0 A) (F0 m 75 ls [.int m_75, .int x2, .ref a_mo]) := by
          intro m_75 em_75 H locs hP hD hS ls hl
          try dsimp only at em_75
          have hPc : va_P D vwCl (wX12_operand cI cB a_mo a_mem a_mks a_mr a_cnt a_wd a_one a_two a_mmade a_mrest a_old v_thrown v_mask v_key v_wait v_problem v_code v_length v_cond v_masks v_addr v_mwanted m_63 v_after v_calls v_oneB v_twoB v_mF v_mkF) H := hP.sub [0, 1, 2] rfl
          have hDc : va_D A (wX12_operand cI cB a_mo a_mem a_mks a_mr a_cnt a_wd a_one a_two a_mmade a_mrest a_old v_thrown v_mask v_key v_wait v_problem v_code v_length v_cond v_masks v_addr v_mwanted m_63 v_after v_calls v_oneB v_twoB v_mF v_mkF) := hD.sub [0, 1, 2] (by decide) rfl
          have hFc := va_free (wc := (wX12_operand cI cB a_mo a_mem a_mks a_mr a_cnt a_wd a_one a_two a_mmade a_mrest a_old v_thrown v_mask v_key v_wait v_problem v_code v_length v_cond v_masks v_addr v_mwanted m_63 v_after v_calls v_oneB v_twoB v_mF v_mkF)) hD hS hA [0, 1, 2] rfl
          refine va_calli (va_runV (As := [.int x2, .int m_75]) (rest := []) ⟨hx, hb, hml, hown, hts⟩ (kX12_operand l D cI cB a_mo a_mem a_mks a_mr a_cnt a_wd a_one a_two a_mmade a_mrest a_old H.size v_thrown v_mask v_key v_wait v_problem v_code v_length v_cond v_masks v_addr v_mwanted m_63 v_after v_calls v_oneB v_twoB v_mF v_mkF x2 m_75 (by first | with_reducible assumption | decide | (unfold vp_in; decide)) (by rw [em_75]; split <;> decide) (by rw [em_63]; (repeat' split) <;> first | exact hw | exact meet_nn (by decide) hw)) (cwV 2 hts (gd_V wd_935 wd_936 wd_937 wd_807 wd_856) rfl rfl rfl hdX12_operand ⟨Nat.le_of_ble_eq_true rfl, Nat.le_of_ble_eq_true rfl⟩) (preV_std (ci := 12) (q0 := 0) hPc hK hDc hNW rfl rfl) rfl rfl hl.1 rfl (lv_room (Nat.le_of_ble_eq_true rfl)) dX12_withMemory_75 ⟨Nat.zero_le _, Nat.zero_le _⟩) hS (fun q _ h => hFc q h) hFc (fun r_75 u_75 t9 H1 locs ht9 hvm9 hw9 hB9 hz9 hk9 hS => ?_)
          obtain ⟨er_75, eu_75⟩ := hw9
          obtain ⟨hP, hD⟩ := back_std (w1 := (wX12_operand cI cB a_mo a_mem a_mks a_mr a_cnt a_wd a_one a_two a_mmade a_mrest a_old v_thrown v_mask v_key v_wait v_problem v_code v_length v_cond v_masks v_addr v_mwanted u_75 v_after v_calls v_oneB v_twoB v_mF v_mkF)) (w2 := (wX12_withMemory cI cB a_mo a_mem a_mks a_mr a_cnt a_wd a_one a_two a_mmade a_mrest a_old v_thrown v_mask v_key v_wait v_problem v_code v_length v_cond v_masks v_addr v_mwanted u_75 v_after v_calls v_oneB v_twoB v_mF v_mkF v_mrF)) (wr := [(a_mr, .inl (cI, 16, .inl v_mrF))]) hP hD [0, 1, 2] [3] [1, 2, 3, 0] rfl rfl (by decide) (by decide) hk9 hFc hB9 ht9 (by decide) rfl
          clear hB9 hk9 hz9 hvm9 ht9 hFc hPc hDc
          generalize H1 = H at hP hS ⊢
          refine lv_istore (lv' := [(6, .int r_75), (0, .ref a_mo), (1, .int x0), (2, .int x1), (3, .int x2), (4, .int m_11), (5, .int m_29)]) hx hb dX12_withMemory_78 hl (by decide) rfl (fun ls hl => ?_)
          refine lv_aload_n hx hb dX12_withMemory_80 rfl (lv_at hl 1 rfl) ?_
          refine va_get (D := D) (ci := 12) (v := .int u_75) (C := RX12) (T := TX12) (N := 26) hx hb hts in_X12 hown hK hP 0 rfl rfl 16 (by decide) q_0 (fun _ h9 => h9) rfl dX12_withMemory_81 ?_
          refine lv_if_le (tgt := 88) hx hb dX12_withMemory_84 (by decide) (fun c_84 => ?_) (fun c_84 => ?_)
          · skip
            refine lv_iload hx hb dX12_withMemory_88 (lv_at hl 5 rfl) ?_
            refine lv_if_eq (tgt := 118) hx hb dX12_withMemory_90 (by decide) (fun c_90 => ?_) (fun c_90 => ?_)
            · skip
              refine lv_aload_n hx hb dX12_withMemory_118 rfl (lv_at hl 1 rfl) ?_
              refine lv_iload hx hb dX12_withMemory_119 (lv_at hl 6 rfl) ?_
              refine lv_iload_n hx hb dX12_withMemory_121 rfl (lv_at hl 3 rfl) ?_
              refine lv_iload hx hb dX12_withMemory_122 (lv_at hl 0 rfl) ?_
              have hPc : va_P D vwCl (wX12_reckon cI cB a_mo a_mem a_mks a_mr a_cnt a_wd a_one a_two a_mmade a_mrest a_old v_thrown v_mask v_key v_wait v_problem v_code v_length v_cond v_masks v_addr v_mwanted u_75 v_after v_calls v_oneB v_twoB v_mrF) H := hP.sub [0, 3] rfl
              have hDc : va_D A (wX12_reckon cI cB a_mo a_mem a_mks a_mr a_cnt a_wd a_one a_two a_mmade a_mrest a_old v_thrown v_mask v_key v_wait v_problem v_code v_length v_cond v_masks v_addr v_mwanted u_75 v_after v_calls v_oneB v_twoB v_mrF) := hD.sub [0, 3] (by decide) rfl
              have hFc := va_free (wc := (wX12_reckon cI cB a_mo a_mem a_mks a_mr a_cnt a_wd a_one a_two a_mmade a_mrest a_old v_thrown v_mask v_key v_wait v_problem v_code v_length v_cond v_masks v_addr v_mwanted u_75 v_after v_calls v_oneB v_twoB v_mrF)) hD hS hA [0, 3] rfl
              refine va_callv (va_runV (As := [.int m_29, .int x1, .int r_75]) (rest := []) ⟨hx, hb, hml, hown, hts⟩ (kX12_reckon l D cI cB a_mo a_mem a_mks a_mr a_cnt a_wd a_one a_two a_mmade a_mrest a_old H.size v_thrown v_mask v_key v_wait v_problem v_code v_length v_cond v_masks v_addr v_mwanted u_75 v_after v_calls v_oneB v_twoB v_mrF m_29 x1 r_75 (by first | with_reducible assumption | decide | (unfold vp_in; decide)) (by rw [eu_75]; exact operand_nn (by rw [em_63]; (repeat' split) <;> first | exact hw | exact meet_nn (by decide) hw))) (cwV 3 hts (gd_V wd_923 wd_924 wd_925 wd_807 wd_886) rfl rfl rfl hdX12_reckon ⟨Nat.le_of_ble_eq_true rfl, Nat.le_of_ble_eq_true rfl⟩) (preV_std (ci := 12) (q0 := 0) hPc hK hDc hNW rfl rfl) rfl rfl hl.1 rfl (lv_room (Nat.le_of_ble_eq_true rfl)) dX12_withMemory_124 ⟨Nat.zero_le _, Nat.zero_le _⟩) hS (fun q _ h => hFc q h) hFc (fun u_124 t9 H1 locs ht9 hvm9 hw9 hB9 hz9 hk9 hS => ?_)
              have eu_124 : u_124 = fX12_reckon m_29 x1 r_75 v_cond v_masks u_75 v_after v_mrF := hw9
              obtain ⟨hP, hD⟩ := back_std (w1 := (wX12_reckon cI cB a_mo a_mem a_mks a_mr a_cnt a_wd a_one a_two a_mmade a_mrest a_old v_thrown v_mask v_key v_wait v_problem v_code v_length u_124.1 v_masks v_addr v_mwanted u_124.2.1 u_124.2.2.1 v_calls v_oneB v_twoB u_124.2.2.2)) (w2 := (wX12_withMemory cI cB a_mo a_mem a_mks a_mr a_cnt a_wd a_one a_two a_mmade a_mrest a_old v_thrown v_mask v_key v_wait v_problem v_code v_length u_124.1 v_masks v_addr v_mwanted u_124.2.1 u_124.2.2.1 v_calls v_oneB v_twoB v_mF v_mkF u_124.2.2.2)) (wr := [(a_mem, .inl (cI, 8192, .inl v_mF)), (a_mks, .inl (cI, 4, .inl v_mkF))]) hP hD [0, 3] [1, 2] [2, 0, 1, 3] rfl rfl (by decide) (by decide) hk9 hFc hB9 ht9 (by decide) rfl
              clear hB9 hk9 hz9 hvm9 ht9 hFc hPc hDc
              generalize H1 = H at hP hS ⊢
              have hf9 : (u_124.1, u_124.2.1, u_124.2.2.1, u_124.2.2.2) = fX12_withMemory x0 x1 x2 v_key v_cond v_masks v_wrong v_after v_mF v_mkF v_mrF := by simp only [fX12_withMemory, ← em_11, ← em_29, ← em_63, ← em_75, ← er_75, ← eu_75, ← eu_124]; (try simp only [if_pos c_84, if_pos c_90])
              exact W.vret hx hb hr (fun t9 ht9 hW9 => ⟨⟨(u_124.1, u_124.2.1, u_124.2.2.1, u_124.2.2.2), rfl, hf9, ⟨by rw [ht9]; exact hP, va_K.moved hW9.alike hK, hD⟩⟩, hS.F ht9⟩) hS.2.2 dX12_withMemory_127
            · skip
              refine lv_iload hx hb dX12_withMemory_93 (lv_at hl 6 rfl) ?_
              refine lv_bipush (v := 12) hx hb dX12_withMemory_95 (by decide) ?_
              refine lv_icmp_ne (tgt := 118) hx hb dX12_withMemory_97 (by decide) (fun c_97 => ?_) (fun c_97 => ?_)
              · skip
                refine lv_aload_n hx hb dX12_withMemory_118 rfl (lv_at hl 1 rfl) ?_
                refine lv_iload hx hb dX12_withMemory_119 (lv_at hl 6 rfl) ?_
                refine lv_iload_n hx hb dX12_withMemory_121 rfl (lv_at hl 3 rfl) ?_
                refine lv_iload hx hb dX12_withMemory_122 (lv_at hl 0 rfl) ?_
                have hPc : va_P D vwCl (wX12_reckon cI cB a_mo a_mem a_mks a_mr a_cnt a_wd a_one a_two a_mmade a_mrest a_old v_thrown v_mask v_key v_wait v_problem v_code v_length v_cond v_masks v_addr v_mwanted u_75 v_after v_calls v_oneB v_twoB v_mrF) H := hP.sub [0, 3] rfl
                have hDc : va_D A (wX12_reckon cI cB a_mo a_mem a_mks a_mr a_cnt a_wd a_one a_two a_mmade a_mrest a_old v_thrown v_mask v_key v_wait v_problem v_code v_length v_cond v_masks v_addr v_mwanted u_75 v_after v_calls v_oneB v_twoB v_mrF) := hD.sub [0, 3] (by decide) rfl
                have hFc := va_free (wc := (wX12_reckon cI cB a_mo a_mem a_mks a_mr a_cnt a_wd a_one a_two a_mmade a_mrest a_old v_thrown v_mask v_key v_wait v_problem v_code v_length v_cond v_masks v_addr v_mwanted u_75 v_after v_calls v_oneB v_twoB v_mrF)) hD hS hA [0, 3] rfl
                refine va_callv (va_runV (As := [.int m_29, .int x1, .int r_75]) (rest := []) ⟨hx, hb, hml, hown, hts⟩ (kX12_reckon l D cI cB a_mo a_mem a_mks a_mr a_cnt a_wd a_one a_two a_mmade a_mrest a_old H.size v_thrown v_mask v_key v_wait v_problem v_code v_length v_cond v_masks v_addr v_mwanted u_75 v_after v_calls v_oneB v_twoB v_mrF m_29 x1 r_75 (by first | with_reducible assumption | decide | (unfold vp_in; decide)) (by rw [eu_75]; exact operand_nn (by rw [em_63]; (repeat' split) <;> first | exact hw | exact meet_nn (by decide) hw))) (cwV 3 hts (gd_V wd_923 wd_924 wd_925 wd_807 wd_886) rfl rfl rfl hdX12_reckon ⟨Nat.le_of_ble_eq_true rfl, Nat.le_of_ble_eq_true rfl⟩) (preV_std (ci := 12) (q0 := 0) hPc hK hDc hNW rfl rfl) rfl rfl hl.1 rfl (lv_room (Nat.le_of_ble_eq_true rfl)) dX12_withMemory_124 ⟨Nat.zero_le _, Nat.zero_le _⟩) hS (fun q _ h => hFc q h) hFc (fun u_124 t9 H1 locs ht9 hvm9 hw9 hB9 hz9 hk9 hS => ?_)
                have eu_124 : u_124 = fX12_reckon m_29 x1 r_75 v_cond v_masks u_75 v_after v_mrF := hw9
                obtain ⟨hP, hD⟩ := back_std (w1 := (wX12_reckon cI cB a_mo a_mem a_mks a_mr a_cnt a_wd a_one a_two a_mmade a_mrest a_old v_thrown v_mask v_key v_wait v_problem v_code v_length u_124.1 v_masks v_addr v_mwanted u_124.2.1 u_124.2.2.1 v_calls v_oneB v_twoB u_124.2.2.2)) (w2 := (wX12_withMemory cI cB a_mo a_mem a_mks a_mr a_cnt a_wd a_one a_two a_mmade a_mrest a_old v_thrown v_mask v_key v_wait v_problem v_code v_length u_124.1 v_masks v_addr v_mwanted u_124.2.1 u_124.2.2.1 v_calls v_oneB v_twoB v_mF v_mkF u_124.2.2.2)) (wr := [(a_mem, .inl (cI, 8192, .inl v_mF)), (a_mks, .inl (cI, 4, .inl v_mkF))]) hP hD [0, 3] [1, 2] [2, 0, 1, 3] rfl rfl (by decide) (by decide) hk9 hFc hB9 ht9 (by decide) rfl
                clear hB9 hk9 hz9 hvm9 ht9 hFc hPc hDc
                generalize H1 = H at hP hS ⊢
                have hf9 : (u_124.1, u_124.2.1, u_124.2.2.1, u_124.2.2.2) = fX12_withMemory x0 x1 x2 v_key v_cond v_masks v_wrong v_after v_mF v_mkF v_mrF := by simp only [fX12_withMemory, ← em_11, ← em_29, ← em_63, ← em_75, ← er_75, ← eu_75, ← eu_124]; (try simp only [if_pos c_84, if_neg c_90, if_neg c_97])
                exact W.vret hx hb hr (fun t9 ht9 hW9 => ⟨⟨(u_124.1, u_124.2.1, u_124.2.2.1, u_124.2.2.2), rfl, hf9, ⟨by rw [ht9]; exact hP, va_K.moved hW9.alike hK, hD⟩⟩, hS.F ht9⟩) hS.2.2 dX12_withMemory_127
              · skip
                refine lv_aload_n hx hb dX12_withMemory_100 rfl (lv_at hl 1 rfl) ?_
                refine va_get (D := D) (ci := 12) (v := .ref a_mr) (C := RX12) (T := TX12) (N := 26) hx hb hts in_X12 hown hK hP 0 rfl rfl 3 (by decide) q_1 (fun _ h9 => h9) rfl dX12_withMemory_101 ?_
                refine lv_iload_n hx hb dX12_withMemory_104 rfl (lv_at hl 3 rfl) ?_
                refine lv_aload_n hx hb dX12_withMemory_105 rfl (lv_at hl 1 rfl) ?_
                refine va_get (D := D) (ci := 12) (v := .ref a_mr) (C := RX12) (T := TX12) (N := 26) hx hb hts in_X12 hown hK hP 0 rfl rfl 3 (by decide) q_1 (fun _ h9 => h9) rfl dX12_withMemory_106 ?_
                refine lv_iload_n hx hb dX12_withMemory_109 rfl (lv_at hl 3 rfl) ?_
                refine va_iald hx hb hK hP 3 0 rfl rfl (by first | with_reducible assumption | exact vin_of (b := 16) (by decide) (by with_reducible assumption) (by with_reducible assumption) | exact vin_of (b := 16) (by decide) (Int32.not_lt.mp (by with_reducible assumption)) (by with_reducible assumption) | exact vin_dn (by decide) (by with_reducible assumption) hI9) dX12_withMemory_110 ?_
                refine lv_iload hx hb dX12_withMemory_111 (lv_at hl 0 rfl) ?_
                refine lv_imul hx hb dX12_withMemory_113 ?_
                refine va_iast hx hb hK hP hD hS 3 0 rfl rfl (by first | with_reducible assumption | exact vin_of (b := 16) (by decide) (by with_reducible assumption) (by with_reducible assumption) | exact vin_of (b := 16) (by decide) (Int32.not_lt.mp (by with_reducible assumption)) (by with_reducible assumption) | exact vin_dn (by decide) (by with_reducible assumption) hI9) dX12_withMemory_114 (fun H locs hP hD hS => ?_)
                obtain ⟨f_114, ef_114⟩ : ∃ z : Nat → Int32, z = upd v_mrF (x1 : Int32).toNatClampNeg (((v_mrF (x1 : Int32).toNatClampNeg) * r_75)) := ⟨_, rfl⟩
                have hP : va_P D vwCl (wX12_withMemory cI cB a_mo a_mem a_mks a_mr a_cnt a_wd a_one a_two a_mmade a_mrest a_old v_thrown v_mask v_key v_wait v_problem v_code v_length v_cond v_masks v_addr v_mwanted u_75 v_after v_calls v_oneB v_twoB v_mF v_mkF (upd v_mrF (x1 : Int32).toNatClampNeg (((v_mrF (x1 : Int32).toNatClampNeg) * r_75)))) H := hP
                have hD : va_D A (wX12_withMemory cI cB a_mo a_mem a_mks a_mr a_cnt a_wd a_one a_two a_mmade a_mrest a_old v_thrown v_mask v_key v_wait v_problem v_code v_length v_cond v_masks v_addr v_mwanted u_75 v_after v_calls v_oneB v_twoB v_mF v_mkF (upd v_mrF (x1 : Int32).toNatClampNeg (((v_mrF (x1 : Int32).toNatClampNeg) * r_75)))) := hD
                rw [← ef_114] at hP hD
                refine lv_goto (tgt := 127) hx hb dX12_withMemory_115 (by decide) ?_
                have hf9 : (v_cond, u_75, v_after, f_114) = fX12_withMemory x0 x1 x2 v_key v_cond v_masks v_wrong v_after v_mF v_mkF v_mrF := by subst ef_114; simp only [fX12_withMemory, ← em_11, ← em_29, ← em_63, ← em_75, ← er_75, ← eu_75]; (try simp only [if_pos c_84, if_neg c_90, if_pos c_97])
                exact W.vret hx hb hr (fun t9 ht9 hW9 => ⟨⟨(v_cond, u_75, v_after, f_114), rfl, hf9, ⟨by rw [ht9]; exact hP, va_K.moved hW9.alike hK, hD⟩⟩, hS.F ht9⟩) hS.2.2 dX12_withMemory_127
          · skip
            have hf9 : (v_cond, u_75, v_after, v_mrF) = fX12_withMemory x0 x1 x2 v_key v_cond v_masks v_wrong v_after v_mF v_mkF v_mrF := by simp only [fX12_withMemory, ← em_11, ← em_29, ← em_63, ← em_75, ← er_75, ← eu_75]; (try simp only [if_neg c_84])
            exact W.vret hx hb hr (fun t9 ht9 hW9 => ⟨⟨(v_cond, u_75, v_after, v_mrF), rfl, hf9, ⟨by rw [ht9]; exact hP, va_K.moved hW9.alike hK, hD⟩⟩, hS.F ht9⟩) hS.2.2 dX12_withMemory_87
        refine lv_if_eq (tgt := 74) hx hb dX12_withMemory_67 (by decide) (fun c_67 => ?_) (fun c_67 => ?_)
        · skip
          refine lv_iconst (v := 4) hx hb dX12_withMemory_74 (by decide) ?_
          exact J_75 4 (by (try simp only [if_pos c_67])) _ _ hP hD hS ls (lv_sub hl [0, 1, 2, 3, 4, 5] rfl)
        · skip
          refine lv_iconst (v := 2) hx hb dX12_withMemory_70 (by decide) ?_
          refine lv_goto (tgt := 75) hx hb dX12_withMemory_71 (by decide) ?_
          exact J_75 2 (by (try simp only [if_neg c_67])) _ _ hP hD hS ls (lv_sub hl [0, 1, 2, 3, 4, 5] rfl)
      refine lv_if_ne (tgt := 63) hx hb dX12_withMemory_33 (by decide) (fun c_33 => ?_) (fun c_33 => ?_)
      · skip
        exact J_63 v_wrong (by (try simp only [if_neg c_33])) _ _ hP hD hS ls (lv_sub hl [1, 2, 3, 4, 5, 0] rfl)
      · skip
        refine lv_iload hx hb dX12_withMemory_36 (lv_at hl 0 rfl) ?_
        refine lv_bipush (v := 12) hx hb dX12_withMemory_38 (by decide) ?_
        refine lv_icmp_eq (tgt := 50) hx hb dX12_withMemory_40 (by decide) (fun c_40 => ?_) (fun c_40 => ?_)
        · skip
          refine lv_iload_n hx hb dX12_withMemory_50 rfl (lv_at hl 3 rfl) ?_
          refine lv_iconst (v := 2) hx hb dX12_withMemory_51 (by decide) ?_
          refine lv_irem hx hb dX12_withMemory_52 (by decide) ?_
          refine lv_iconst (v := 1) hx hb dX12_withMemory_53 (by decide) ?_
          refine lv_icmp_ne (tgt := 63) hx hb dX12_withMemory_54 (by decide) (fun c_54 => ?_) (fun c_54 => ?_)
          · skip
            exact J_63 v_wrong (by (try simp only [if_pos c_33, if_pos c_40, if_neg c_54])) _ _ hP hD hS ls (lv_sub hl [1, 2, 3, 4, 5, 0] rfl)
          · skip
            refine lv_aload_n hx hb dX12_withMemory_57 rfl (lv_at hl 1 rfl) ?_
            refine lv_bipush (v := 6) hx hb dX12_withMemory_58 (by decide) ?_
            have hPc : va_P D vwCl (wX12_meet cI cB a_mo a_mem a_mks a_mr a_cnt a_wd a_one a_two a_mmade a_mrest a_old v_thrown v_mask v_key v_wait v_problem v_code v_length v_cond v_masks v_addr v_mwanted v_wrong v_after v_calls v_oneB v_twoB) H := hP.sub [0] rfl
            have hDc : va_D A (wX12_meet cI cB a_mo a_mem a_mks a_mr a_cnt a_wd a_one a_two a_mmade a_mrest a_old v_thrown v_mask v_key v_wait v_problem v_code v_length v_cond v_masks v_addr v_mwanted v_wrong v_after v_calls v_oneB v_twoB) := hD.sub [0] (by decide) rfl
            have hFc := va_free (wc := (wX12_meet cI cB a_mo a_mem a_mks a_mr a_cnt a_wd a_one a_two a_mmade a_mrest a_old v_thrown v_mask v_key v_wait v_problem v_code v_length v_cond v_masks v_addr v_mwanted v_wrong v_after v_calls v_oneB v_twoB)) hD hS hA [0] rfl
            refine va_callv (va_runV (As := [.int 6]) (rest := []) ⟨hx, hb, hml, hown, hts⟩ (kX12_meet l D cI cB a_mo a_mem a_mks a_mr a_cnt a_wd a_one a_two a_mmade a_mrest a_old H.size v_thrown v_mask v_key v_wait v_problem v_code v_length v_cond v_masks v_addr v_mwanted v_wrong v_after v_calls v_oneB v_twoB 6) (cwV 1 hts (gd_V wd_838 wd_839 wd_840 wd_807 wd_835) rfl rfl rfl hdX12_meet ⟨Nat.le_of_ble_eq_true rfl, Nat.le_of_ble_eq_true rfl⟩) (preV_std (ci := 12) (q0 := 0) hPc hK hDc hNW rfl rfl) rfl rfl hl.1 rfl (lv_room (Nat.le_of_ble_eq_true rfl)) dX12_withMemory_60 ⟨Nat.zero_le _, Nat.zero_le _⟩) hS (fun q _ h => hFc q h) hFc (fun u_60 t9 H1 locs ht9 hvm9 hw9 hB9 hz9 hk9 hS => ?_)
            have eu_60 : u_60 = fX12_meet 6 v_wrong := hw9
            obtain ⟨hP, hD⟩ := back_std (w1 := (wX12_meet cI cB a_mo a_mem a_mks a_mr a_cnt a_wd a_one a_two a_mmade a_mrest a_old v_thrown v_mask v_key v_wait v_problem v_code v_length v_cond v_masks v_addr v_mwanted u_60 v_after v_calls v_oneB v_twoB)) (w2 := (wX12_withMemory cI cB a_mo a_mem a_mks a_mr a_cnt a_wd a_one a_two a_mmade a_mrest a_old v_thrown v_mask v_key v_wait v_problem v_code v_length v_cond v_masks v_addr v_mwanted u_60 v_after v_calls v_oneB v_twoB v_mF v_mkF v_mrF)) (wr := [(a_mem, .inl (cI, 8192, .inl v_mF)), (a_mks, .inl (cI, 4, .inl v_mkF)), (a_mr, .inl (cI, 16, .inl v_mrF))]) hP hD [0] [1, 2, 3] [3, 0, 1, 2] rfl rfl (by decide) (by decide) hk9 hFc hB9 ht9 (by decide) rfl
            clear hB9 hk9 hz9 hvm9 ht9 hFc hPc hDc
            generalize H1 = H at hP hS ⊢
            exact J_63 u_60 (by (try simp only [← eu_60]); (try simp only [if_pos c_33, if_pos c_40, if_pos c_54])) _ _ hP hD hS ls (lv_sub hl [1, 2, 3, 4, 5, 0] rfl)
        · skip
          refine lv_iload hx hb dX12_withMemory_43 (lv_at hl 0 rfl) ?_
          refine lv_bipush (v := 13) hx hb dX12_withMemory_45 (by decide) ?_
          refine lv_icmp_ne (tgt := 63) hx hb dX12_withMemory_47 (by decide) (fun c_47 => ?_) (fun c_47 => ?_)
          · skip
            exact J_63 v_wrong (by (try simp only [if_pos c_33, if_neg c_40, if_neg c_47])) _ _ hP hD hS ls (lv_sub hl [1, 2, 3, 4, 5, 0] rfl)
          · skip
            refine lv_iload_n hx hb dX12_withMemory_50 rfl (lv_at hl 3 rfl) ?_
            refine lv_iconst (v := 2) hx hb dX12_withMemory_51 (by decide) ?_
            refine lv_irem hx hb dX12_withMemory_52 (by decide) ?_
            refine lv_iconst (v := 1) hx hb dX12_withMemory_53 (by decide) ?_
            refine lv_icmp_ne (tgt := 63) hx hb dX12_withMemory_54 (by decide) (fun c_54 => ?_) (fun c_54 => ?_)
            · skip
              exact J_63 v_wrong (by (try simp only [if_pos c_33, if_neg c_40, if_pos c_47, if_neg c_54])) _ _ hP hD hS ls (lv_sub hl [1, 2, 3, 4, 5, 0] rfl)
            · skip
              refine lv_aload_n hx hb dX12_withMemory_57 rfl (lv_at hl 1 rfl) ?_
              refine lv_bipush (v := 6) hx hb dX12_withMemory_58 (by decide) ?_
              have hPc : va_P D vwCl (wX12_meet cI cB a_mo a_mem a_mks a_mr a_cnt a_wd a_one a_two a_mmade a_mrest a_old v_thrown v_mask v_key v_wait v_problem v_code v_length v_cond v_masks v_addr v_mwanted v_wrong v_after v_calls v_oneB v_twoB) H := hP.sub [0] rfl
              have hDc : va_D A (wX12_meet cI cB a_mo a_mem a_mks a_mr a_cnt a_wd a_one a_two a_mmade a_mrest a_old v_thrown v_mask v_key v_wait v_problem v_code v_length v_cond v_masks v_addr v_mwanted v_wrong v_after v_calls v_oneB v_twoB) := hD.sub [0] (by decide) rfl
              have hFc := va_free (wc := (wX12_meet cI cB a_mo a_mem a_mks a_mr a_cnt a_wd a_one a_two a_mmade a_mrest a_old v_thrown v_mask v_key v_wait v_problem v_code v_length v_cond v_masks v_addr v_mwanted v_wrong v_after v_calls v_oneB v_twoB)) hD hS hA [0] rfl
              refine va_callv (va_runV (As := [.int 6]) (rest := []) ⟨hx, hb, hml, hown, hts⟩ (kX12_meet l D cI cB a_mo a_mem a_mks a_mr a_cnt a_wd a_one a_two a_mmade a_mrest a_old H.size v_thrown v_mask v_key v_wait v_problem v_code v_length v_cond v_masks v_addr v_mwanted v_wrong v_after v_calls v_oneB v_twoB 6) (cwV 1 hts (gd_V wd_838 wd_839 wd_840 wd_807 wd_835) rfl rfl rfl hdX12_meet ⟨Nat.le_of_ble_eq_true rfl, Nat.le_of_ble_eq_true rfl⟩) (preV_std (ci := 12) (q0 := 0) hPc hK hDc hNW rfl rfl) rfl rfl hl.1 rfl (lv_room (Nat.le_of_ble_eq_true rfl)) dX12_withMemory_60 ⟨Nat.zero_le _, Nat.zero_le _⟩) hS (fun q _ h => hFc q h) hFc (fun u_60 t9 H1 locs ht9 hvm9 hw9 hB9 hz9 hk9 hS => ?_)
              have eu_60 : u_60 = fX12_meet 6 v_wrong := hw9
              obtain ⟨hP, hD⟩ := back_std (w1 := (wX12_meet cI cB a_mo a_mem a_mks a_mr a_cnt a_wd a_one a_two a_mmade a_mrest a_old v_thrown v_mask v_key v_wait v_problem v_code v_length v_cond v_masks v_addr v_mwanted u_60 v_after v_calls v_oneB v_twoB)) (w2 := (wX12_withMemory cI cB a_mo a_mem a_mks a_mr a_cnt a_wd a_one a_two a_mmade a_mrest a_old v_thrown v_mask v_key v_wait v_problem v_code v_length v_cond v_masks v_addr v_mwanted u_60 v_after v_calls v_oneB v_twoB v_mF v_mkF v_mrF)) (wr := [(a_mem, .inl (cI, 8192, .inl v_mF)), (a_mks, .inl (cI, 4, .inl v_mkF)), (a_mr, .inl (cI, 16, .inl v_mrF))]) hP hD [0] [1, 2, 3] [3, 0, 1, 2] rfl rfl (by decide) (by decide) hk9 hFc hB9 ht9 (by decide) rfl
              clear hB9 hk9 hz9 hvm9 ht9 hFc hPc hDc
              generalize H1 = H at hP hS ⊢
              exact J_63 u_60 (by (try simp only [← eu_60]); (try simp only [if_pos c_33, if_neg c_40, if_pos c_47, if_pos c_54])) _ _ hP hD hS ls (lv_sub hl [1, 2, 3, 4, 5, 0] rfl)
    refine lv_if_eq (tgt := 25) hx hb dX12_withMemory_15 (by decide) (fun c_15 => ?_) (fun c_15 => ?_)
    · skip
      refine lv_iload_n hx hb dX12_withMemory_25 rfl (lv_at hl 2 rfl) ?_
      refine lv_bipush (v := 80) hx hb dX12_withMemory_26 (by decide) ?_
      refine lv_isub hx hb dX12_withMemory_28 ?_
      exact J_29 (x0 - 80) (by (try simp only [if_pos c_15])) _ _ hP hD hS ls (lv_sub hl [1, 2, 3, 4, 0] rfl)
    · skip
      refine lv_iload_n hx hb dX12_withMemory_18 rfl (lv_at hl 2 rfl) ?_
      refine lv_bipush (v := 64) hx hb dX12_withMemory_19 (by decide) ?_
      refine lv_isub hx hb dX12_withMemory_21 ?_
      refine lv_goto (tgt := 29) hx hb dX12_withMemory_22 (by decide) ?_
      exact J_29 (x0 - 64) (by (try simp only [if_neg c_15])) _ _ hP hD hS ls (lv_sub hl [1, 2, 3, 4, 0] rfl)
  refine lv_icmp_ge (tgt := 10) hx hb dX12_withMemory_3 (by decide) (fun c_3 => ?_) (fun c_3 => ?_)
  · skip
    refine lv_iconst (v := 0) hx hb dX12_withMemory_10 (by decide) ?_
    exact J_11 0 (by (try simp only [if_pos c_3])) _ _ hP hD hS ls (lv_sub hl [0, 1, 2, 3] rfl)
  · skip
    refine lv_iconst (v := 1) hx hb dX12_withMemory_6 (by decide) ?_
    refine lv_goto (tgt := 11) hx hb dX12_withMemory_7 (by decide) ?_
    exact J_11 1 (by (try simp only [if_neg c_3])) _ _ hP hD hS ls (lv_sub hl [0, 1, 2, 3] rfl)
theorem hdX12_withMemory : yX12_withMemory.cls = RX12 ∧ yX12_withMemory.cls ≠ "java/lang/invoke/MethodHandle" ∧ yX12_withMemory.cls ≠ "java/lang/invoke/VarHandle" ∧ (parseMethodDescriptor yX12_withMemory.desc).map (fun d => d.parameters.length) = some 3 := by decide +kernel
noncomputable def fX12_indexedOnes (x0 : Int32) (v_key : Int32) (v_length : Int32) (v_cond : Int32) (v_masks : Int32) (v_addr : Int32) (v_wrong : Int32) (v_after : Int32) (v_oneB : Int32) (v_twoB : Int32) (v_mF : (Nat → Int32)) (v_mkF : (Nat → Int32)) (v_mrF : (Nat → Int32)) (v_wdF : (Nat → Int32)) (v_oneF : (Nat → Int32)) (v_twoF : (Nat → Int32)) (v_mmF : (Nat → Int32)) : (Int32 × Int32 × Int32 × Int32 × Int32 × Int32 × (Nat → Int32) × (Nat → Int32) × (Nat → Int32) × (Nat → Int32) × (Nat → Int32)) :=
  let x_8 := ((v_wdF (1 : Int32).toNatClampNeg) >>> (4 &&& 31))
  let r_10 := fX12_indexed v_mrF v_wdF
  if x0 = 64 then (let u_105 := fX12_toMemory r_10 (v_mrF (x_8 : Int32).toNatClampNeg) 2 v_key v_wrong v_mF v_mkF; (v_cond, v_addr, u_105.1, v_after, v_oneB, v_twoB, u_105.2, v_mrF, v_oneF, v_twoF, v_mmF)) else (if x0 = 65 then (let f_117 := upd v_mrF (x_8 : Int32).toNatClampNeg (r_10); (v_cond, v_addr, v_wrong, v_after, v_oneB, v_twoB, v_mF, f_117, v_oneF, v_twoF, v_mmF)) else (if x0 = 66 then (let u_130 := fX12_toMemory r_10 (v_mrF (x_8 : Int32).toNatClampNeg) 1 v_key v_wrong v_mF v_mkF; (v_cond, v_addr, u_130.1, v_after, v_oneB, v_twoB, u_130.2, v_mrF, v_oneF, v_twoF, v_mmF)) else (if x0 = 67 then (let u_140 := fX12_look r_10 1 0 v_key v_wrong v_mkF; let m_181 : Int32 := (if u_140 ≤ 0 then ((((v_mrF (x_8 : Int32).toNatClampNeg) &&& (-256 : Int32)) ||| (v_mF (r_10 : Int32).toNatClampNeg))) else ((v_mrF (x_8 : Int32).toNatClampNeg))); let f_181 := upd v_mrF (x_8 : Int32).toNatClampNeg (m_181); (v_cond, v_addr, u_140, v_after, v_oneB, v_twoB, v_mF, f_181, v_oneF, v_twoF, v_mmF)) else (if x0 = 69 then (let r_191 := fX12_low v_length v_cond v_masks v_addr; let f_194 := upd v_mrF (x_8 : Int32).toNatClampNeg (r_191); let u_197 := fX12_branchTo r_10 v_addr; (v_cond, u_197, v_wrong, v_after, v_oneB, v_twoB, v_mF, f_194, v_oneF, v_twoF, v_mmF)) else (if x0 = 70 then (let f_212 := upd v_mrF (x_8 : Int32).toNatClampNeg (((v_mrF (x_8 : Int32).toNatClampNeg) - 1)); if (f_212 (x_8 : Int32).toNatClampNeg) = 0 then ((v_cond, v_addr, v_wrong, v_after, v_oneB, v_twoB, v_mF, f_212, v_oneF, v_twoF, v_mmF)) else (let u_224 := fX12_branchTo r_10 v_addr; (v_cond, u_224, v_wrong, v_after, v_oneB, v_twoB, v_mF, f_212, v_oneF, v_twoF, v_mmF))) else (if x0 = 71 then (if ((x_8 >>> ((3 - v_cond) &&& 31)) &&& 1) = 1 then (let u_246 := fX12_branchTo r_10 v_addr; (v_cond, u_246, v_wrong, v_after, v_oneB, v_twoB, v_mF, v_mrF, v_oneF, v_twoF, v_mmF)) else ((v_cond, v_addr, v_wrong, v_after, v_oneB, v_twoB, v_mF, v_mrF, v_oneF, v_twoF, v_mmF))) else (if x0 = 77 then (let u_292 := fX12_meet 1 v_wrong; (v_cond, v_addr, u_292, v_after, v_oneB, v_twoB, v_mF, v_mrF, v_oneF, v_twoF, v_mmF)) else (if x0 = 78 then (let u_260 := fX12_toDecimal r_10 (v_mrF (x_8 : Int32).toNatClampNeg) v_key v_wrong v_mF v_mkF v_mmF; (v_cond, v_addr, u_260.1, v_after, v_oneB, v_twoB, u_260.2.1, v_mrF, v_oneF, v_twoF, u_260.2.2)) else (if x0 = 79 then (let u_269 := fX12_fromDecimal x_8 r_10 v_key v_wrong v_oneB v_twoB v_mF v_mkF v_mrF v_oneF v_twoF; (v_cond, v_addr, u_269.1, v_after, u_269.2.1, u_269.2.2.1, v_mF, u_269.2.2.2.1, u_269.2.2.2.2.1, u_269.2.2.2.2.2, v_mmF)) else (if x0 = 80 then (let u_284 := fX12_toMemory r_10 (v_mrF (x_8 : Int32).toNatClampNeg) 4 v_key v_wrong v_mF v_mkF; (v_cond, v_addr, u_284.1, v_after, v_oneB, v_twoB, u_284.2, v_mrF, v_oneF, v_twoF, v_mmF)) else (if x0 ≤ 80 then (let u_322 := fX12_withMemory x0 x_8 r_10 v_key v_cond v_masks v_wrong v_after v_mF v_mkF v_mrF; (u_322.1, v_addr, u_322.2.1, u_322.2.2.1, v_oneB, v_twoB, v_mF, u_322.2.2.2, v_oneF, v_twoF, v_mmF)) else (if 84 ≤ x0 then (let u_322 := fX12_withMemory x0 x_8 r_10 v_key v_cond v_masks v_wrong v_after v_mF v_mkF v_mrF; (u_322.1, v_addr, u_322.2.1, u_322.2.2.1, v_oneB, v_twoB, v_mF, u_322.2.2.2, v_oneF, v_twoF, v_mmF)) else (let u_312 := fX12_meet 1 v_wrong; (v_cond, v_addr, u_312, v_after, v_oneB, v_twoB, v_mF, v_mrF, v_oneF, v_twoF, v_mmF))))))))))))))
abbrev wX12_indexedOnes (cI cB : ClassId) (a_mo a_mem a_mks a_mr a_cnt a_wd a_one a_two a_mmade a_mrest a_old : Nat) (v_thrown : Int32) (v_mask : Int32) (v_key : Int32) (v_wait : Int32) (v_problem : Int32) (v_code : Int32) (v_length : Int32) (v_cond : Int32) (v_masks : Int32) (v_addr : Int32) (v_mwanted : Int32) (v_wrong : Int32) (v_after : Int32) (v_calls : Int32) (v_oneB : Int32) (v_twoB : Int32) (v_mF : (Nat → Int32)) (v_mkF : (Nat → Int32)) (v_mrF : (Nat → Int32)) (v_wdF : (Nat → Int32)) (v_oneF : (Nat → Int32)) (v_twoF : (Nat → Int32)) (v_mmF : (Nat → Int32)) : va_W := [(a_mo, .inr (12, [.int v_thrown, .ref a_mem, .ref a_mks, .ref a_mr, .int v_mask, .int v_key, .int v_wait, .int v_problem, .int v_code, .int v_length, .int v_cond, .int v_masks, .int v_addr, .int v_mwanted, .ref a_cnt, .ref a_wd, .int v_wrong, .int v_after, .int v_calls, .ref a_one, .int v_oneB, .ref a_two, .int v_twoB, .ref a_mmade, .ref a_mrest, .ref a_old])), (a_mem, .inl (cI, 8192, .inl v_mF)), (a_mks, .inl (cI, 4, .inl v_mkF)), (a_mr, .inl (cI, 16, .inl v_mrF)), (a_wd, .inl (cI, 6, .inl v_wdF)), (a_one, .inl (cI, 80, .inl v_oneF)), (a_two, .inl (cI, 80, .inl v_twoF)), (a_mmade, .inl (cI, 80, .inl v_mmF))]
abbrev rmX12_indexedOnes : Room := { frames := 5, cells := 0, slots := 0, locals := 120 }
abbrev qX12_indexedOnes (D : va_G) (cI cB : ClassId) (a_mo a_mem a_mks a_mr a_cnt a_wd a_one a_two a_mmade a_mrest a_old : Nat) (v_thrown : Int32) (v_mask : Int32) (v_key : Int32) (v_wait : Int32) (v_problem : Int32) (v_code : Int32) (v_length : Int32) (v_cond : Int32) (v_masks : Int32) (v_addr : Int32) (v_mwanted : Int32) (v_wrong : Int32) (v_after : Int32) (v_calls : Int32) (v_oneB : Int32) (v_twoB : Int32) (v_mF : (Nat → Int32)) (v_mkF : (Nat → Int32)) (v_mrF : (Nat → Int32)) (v_wdF : (Nat → Int32)) (v_oneF : (Nat → Int32)) (v_twoF : (Nat → Int32)) (v_mmF : (Nat → Int32)) (x0 : Int32) : (Nat → Prop) → Array Value → State → Outcome → State → Prop := fun A9 => va_Qv (fun (u9 : (Int32 × Int32 × Int32 × Int32 × Int32 × Int32 × (Nat → Int32) × (Nat → Int32) × (Nat → Int32) × (Nat → Int32) × (Nat → Int32))) => u9 = fX12_indexedOnes x0 v_key v_length v_cond v_masks v_addr v_wrong v_after v_oneB v_twoB v_mF v_mkF v_mrF v_wdF v_oneF v_twoF v_mmF) (fun u9 t9 => atW D (TYS cI cB) A9 (wX12_indexedOnes cI cB a_mo a_mem a_mks a_mr a_cnt a_wd a_one a_two a_mmade a_mrest a_old v_thrown v_mask v_key v_wait v_problem v_code v_length u9.1 v_masks u9.2.1 v_mwanted u9.2.2.1 u9.2.2.2.1 v_calls u9.2.2.2.2.1 u9.2.2.2.2.2.1 u9.2.2.2.2.2.2.1 v_mkF u9.2.2.2.2.2.2.2.1 v_wdF u9.2.2.2.2.2.2.2.2.1 u9.2.2.2.2.2.2.2.2.2.1 u9.2.2.2.2.2.2.2.2.2.2) t9) A9
set_option maxHeartbeats 4000000 in
set_option maxRecDepth 100000 in
theorem kX12_indexedOnes (l : Launch) (D : va_G) (cI cB : ClassId) (a_mo a_mem a_mks a_mr a_cnt a_wd a_one a_two a_mmade a_mrest a_old : Nat) (sz : Nat) (v_thrown : Int32) (v_mask : Int32) (v_key : Int32) (v_wait : Int32) (v_problem : Int32) (v_code : Int32) (v_length : Int32) (v_cond : Int32) (v_masks : Int32) (v_addr : Int32) (v_mwanted : Int32) (v_wrong : Int32) (v_after : Int32) (v_calls : Int32) (v_oneB : Int32) (v_twoB : Int32) (v_mF : (Nat → Int32)) (v_mkF : (Nat → Int32)) (v_mrF : (Nat → Int32)) (v_wdF : (Nat → Int32)) (v_oneF : (Nat → Int32)) (v_twoF : (Nat → Int32)) (v_mmF : (Nat → Int32)) (x0 : Int32) (hW : wdOk v_wdF) (hw : 0 ≤ v_wrong) : MetW l yX12_indexedOnes (WK yX12_indexedOnes cX12_indexedOnes 4 none) rmX12_indexedOnes D (TYS cI cB) (wX12_indexedOnes cI cB a_mo a_mem a_mks a_mr a_cnt a_wd a_one a_two a_mmade a_mrest a_old v_thrown v_mask v_key v_wait v_problem v_code v_length v_cond v_masks v_addr v_mwanted v_wrong v_after v_calls v_oneB v_twoB v_mF v_mkF v_mrF v_wdF v_oneF v_twoF v_mmF) sz [.ref a_mo, .int x0] (qX12_indexedOnes D cI cB a_mo a_mem a_mks a_mr a_cnt a_wd a_one a_two a_mmade a_mrest a_old v_thrown v_mask v_key v_wait v_problem v_code v_length v_cond v_masks v_addr v_mwanted v_wrong v_after v_calls v_oneB v_twoB v_mF v_mkF v_mrF v_wdF v_oneF v_twoF v_mmF x0) 0 0 := by
  refine met_std (by decide) rfl (Nat.le_of_ble_eq_true rfl) ?_
  intro p e s m below meth c A ls H hx hb hr hml hown hts hlocks hA hP hK hD hS hNW hl
  have hl : lv_has ls 4 [(0, .ref a_mo), (1, .int x0)] := hl
  generalize ([] : List Loc) = locs at hS ⊢
  have q_0 := hts _ (List.mem_cons_of_mem _ wd_781)
  have q_1 := hts _ (List.mem_cons_of_mem _ wd_779)
  have q_2 := hts _ (List.mem_cons_of_mem _ wd_836)
  have q_3 := hts _ (List.mem_cons_of_mem _ wd_777)
  have q_4 := hts _ (List.mem_cons_of_mem _ wd_792)
  refine lv_aload_n hx hb dX12_indexedOnes_0 rfl (lv_at hl 0 rfl) ?_
  refine va_get (D := D) (ci := 12) (v := .ref a_wd) (C := RX12) (T := TX12) (N := 26) hx hb hts in_X12 hown hK hP 0 rfl rfl 15 (by decide) q_0 (fun _ h9 => h9) rfl dX12_indexedOnes_1 ?_
  refine lv_iconst (v := 1) hx hb dX12_indexedOnes_4 (by decide) ?_
  refine va_iald hx hb hK hP 4 0 rfl rfl (by unfold vp_in; decide) dX12_indexedOnes_5 ?_
  refine lv_iconst (v := 4) hx hb dX12_indexedOnes_6 (by decide) ?_
  refine lv_ishr hx hb dX12_indexedOnes_7 ?_
  refine lv_topi (fun x_8 ex_8 => ?_)
  refine lv_istore_n (lv' := [(2, .int x_8), (0, .ref a_mo), (1, .int x0)]) hx hb dX12_indexedOnes_8 rfl hl (by decide) rfl (fun ls hl => ?_)
  refine lv_aload_n hx hb dX12_indexedOnes_9 rfl (lv_at hl 1 rfl) ?_
  have hPc : va_P D vwCl (wX12_indexed cI cB a_mo a_mem a_mks a_mr a_cnt a_wd a_one a_two a_mmade a_mrest a_old v_thrown v_mask v_key v_wait v_problem v_code v_length v_cond v_masks v_addr v_mwanted v_wrong v_after v_calls v_oneB v_twoB v_mrF v_wdF) H := hP.sub [0, 3, 4] rfl
  have hDc : va_D A (wX12_indexed cI cB a_mo a_mem a_mks a_mr a_cnt a_wd a_one a_two a_mmade a_mrest a_old v_thrown v_mask v_key v_wait v_problem v_code v_length v_cond v_masks v_addr v_mwanted v_wrong v_after v_calls v_oneB v_twoB v_mrF v_wdF) := hD.sub [0, 3, 4] (by decide) rfl
  have hFc := va_free (wc := (wX12_indexed cI cB a_mo a_mem a_mks a_mr a_cnt a_wd a_one a_two a_mmade a_mrest a_old v_thrown v_mask v_key v_wait v_problem v_code v_length v_cond v_masks v_addr v_mwanted v_wrong v_after v_calls v_oneB v_twoB v_mrF v_wdF)) hD hS hA [0, 3, 4] rfl
  refine va_calli (va_runV (As := []) (rest := []) ⟨hx, hb, hml, hown, hts⟩ (kX12_indexed l D cI cB a_mo a_mem a_mks a_mr a_cnt a_wd a_one a_two a_mmade a_mrest a_old H.size v_thrown v_mask v_key v_wait v_problem v_code v_length v_cond v_masks v_addr v_mwanted v_wrong v_after v_calls v_oneB v_twoB v_mrF v_wdF  (by first | with_reducible assumption | decide | (unfold vp_in; decide))) (cwV 0 hts (gd_V wd_939 wd_940 wd_941 wd_807 wd_852) rfl rfl rfl hdX12_indexed ⟨Nat.le_of_ble_eq_true rfl, Nat.le_of_ble_eq_true rfl⟩) (preV_std (ci := 12) (q0 := 0) hPc hK hDc hNW rfl rfl) rfl rfl hl.1 rfl (lv_room (Nat.le_of_ble_eq_true rfl)) dX12_indexedOnes_10 ⟨Nat.zero_le _, Nat.zero_le _⟩) hS (fun q _ h => hFc q h) hFc (fun r_10 u_10 t9 H1 locs ht9 hvm9 hw9 hB9 hz9 hk9 hS => ?_)
  have er_10 : r_10 = fX12_indexed v_mrF v_wdF := hw9
  obtain ⟨hP, hD⟩ := back_std (w1 := (wX12_indexed cI cB a_mo a_mem a_mks a_mr a_cnt a_wd a_one a_two a_mmade a_mrest a_old v_thrown v_mask v_key v_wait v_problem v_code v_length v_cond v_masks v_addr v_mwanted v_wrong v_after v_calls v_oneB v_twoB v_mrF v_wdF)) (w2 := (wX12_indexedOnes cI cB a_mo a_mem a_mks a_mr a_cnt a_wd a_one a_two a_mmade a_mrest a_old v_thrown v_mask v_key v_wait v_problem v_code v_length v_cond v_masks v_addr v_mwanted v_wrong v_after v_calls v_oneB v_twoB v_mF v_mkF v_mrF v_wdF v_oneF v_twoF v_mmF)) (wr := [(a_mem, .inl (cI, 8192, .inl v_mF)), (a_mks, .inl (cI, 4, .inl v_mkF)), (a_one, .inl (cI, 80, .inl v_oneF)), (a_two, .inl (cI, 80, .inl v_twoF)), (a_mmade, .inl (cI, 80, .inl v_mmF))]) hP hD [0, 3, 4] [1, 2, 5, 6, 7] [5, 0, 1, 6, 7, 2, 3, 4] rfl rfl (by decide) (by decide) hk9 hFc hB9 ht9 (by decide) rfl
  clear hB9 hk9 hz9 hvm9 ht9 hFc hPc hDc
  generalize H1 = H at hP hS ⊢
  refine lv_istore_n (lv' := [(3, .int r_10), (2, .int x_8), (0, .ref a_mo), (1, .int x0)]) hx hb dX12_indexedOnes_13 rfl hl (by decide) rfl (fun ls hl => ?_)
  have hk : vp_in x_8 16 := nib ex_8 (hW _ (by decide))
  have ha : in24 r_10 := indexed24 er_10
  refine lv_iload_n hx hb dX12_indexedOnes_14 rfl (lv_at hl 3 rfl) ?_
  by_cases c_15_0 : x0 = 64
  · skip
    refine lv_tableIn (tgt := 96) (off := 81) hx hb dX12_indexedOnes_15 (by rw [c_15_0]; decide) (by rw [c_15_0]; decide) (by rw [c_15_0]; rfl) (by decide) ?_
    refine lv_aload_n hx hb dX12_indexedOnes_96 rfl (lv_at hl 2 rfl) ?_
    refine lv_iload_n hx hb dX12_indexedOnes_97 rfl (lv_at hl 0 rfl) ?_
    refine lv_aload_n hx hb dX12_indexedOnes_98 rfl (lv_at hl 2 rfl) ?_
    refine va_get (D := D) (ci := 12) (v := .ref a_mr) (C := RX12) (T := TX12) (N := 26) hx hb hts in_X12 hown hK hP 0 rfl rfl 3 (by decide) q_1 (fun _ h9 => h9) rfl dX12_indexedOnes_99 ?_
    refine lv_iload_n hx hb dX12_indexedOnes_102 rfl (lv_at hl 1 rfl) ?_
    refine va_iald hx hb hK hP 3 0 rfl rfl (by first | with_reducible assumption | exact vin_of (b := 16) (by decide) (by with_reducible assumption) (by with_reducible assumption) | exact vin_of (b := 16) (by decide) (Int32.not_lt.mp (by with_reducible assumption)) (by with_reducible assumption) | exact vin_dn (by decide) (by with_reducible assumption) hI9) dX12_indexedOnes_103 ?_
    refine lv_iconst (v := 2) hx hb dX12_indexedOnes_104 (by decide) ?_
    have hPc : va_P D vwCl (wX12_toMemory cI cB a_mo a_mem a_mks a_mr a_cnt a_wd a_one a_two a_mmade a_mrest a_old v_thrown v_mask v_key v_wait v_problem v_code v_length v_cond v_masks v_addr v_mwanted v_wrong v_after v_calls v_oneB v_twoB v_mF v_mkF) H := hP.sub [0, 1, 2] rfl
    have hDc : va_D A (wX12_toMemory cI cB a_mo a_mem a_mks a_mr a_cnt a_wd a_one a_two a_mmade a_mrest a_old v_thrown v_mask v_key v_wait v_problem v_code v_length v_cond v_masks v_addr v_mwanted v_wrong v_after v_calls v_oneB v_twoB v_mF v_mkF) := hD.sub [0, 1, 2] (by decide) rfl
    have hFc := va_free (wc := (wX12_toMemory cI cB a_mo a_mem a_mks a_mr a_cnt a_wd a_one a_two a_mmade a_mrest a_old v_thrown v_mask v_key v_wait v_problem v_code v_length v_cond v_masks v_addr v_mwanted v_wrong v_after v_calls v_oneB v_twoB v_mF v_mkF)) hD hS hA [0, 1, 2] rfl
    refine va_callv (va_runV (As := [.int r_10, .int ((v_mrF (x_8 : Int32).toNatClampNeg)), .int 2]) (rest := []) ⟨hx, hb, hml, hown, hts⟩ (kX12_toMemory l D cI cB a_mo a_mem a_mks a_mr a_cnt a_wd a_one a_two a_mmade a_mrest a_old H.size v_thrown v_mask v_key v_wait v_problem v_code v_length v_cond v_masks v_addr v_mwanted v_wrong v_after v_calls v_oneB v_twoB v_mF v_mkF r_10 (v_mrF (x_8 : Int32).toNatClampNeg) 2 (by first | with_reducible assumption | decide | (unfold vp_in; decide)) (by first | with_reducible assumption | decide | (unfold vp_in; decide)) (by first | with_reducible assumption | decide | (unfold vp_in; decide))) (cwV 3 hts (gd_V wd_942 wd_943 wd_944 wd_807 wd_927) rfl rfl rfl hdX12_toMemory ⟨Nat.le_of_ble_eq_true rfl, Nat.le_of_ble_eq_true rfl⟩) (preV_std (ci := 12) (q0 := 0) hPc hK hDc hNW rfl rfl) rfl rfl hl.1 rfl (lv_room (Nat.le_of_ble_eq_true rfl)) dX12_indexedOnes_105 ⟨Nat.zero_le _, Nat.zero_le _⟩) hS (fun q _ h => hFc q h) hFc (fun u_105 t9 H1 locs ht9 hvm9 hw9 hB9 hz9 hk9 hS => ?_)
    have eu_105 : u_105 = fX12_toMemory r_10 (v_mrF (x_8 : Int32).toNatClampNeg) 2 v_key v_wrong v_mF v_mkF := hw9
    obtain ⟨hP, hD⟩ := back_std (w1 := (wX12_toMemory cI cB a_mo a_mem a_mks a_mr a_cnt a_wd a_one a_two a_mmade a_mrest a_old v_thrown v_mask v_key v_wait v_problem v_code v_length v_cond v_masks v_addr v_mwanted u_105.1 v_after v_calls v_oneB v_twoB u_105.2 v_mkF)) (w2 := (wX12_indexedOnes cI cB a_mo a_mem a_mks a_mr a_cnt a_wd a_one a_two a_mmade a_mrest a_old v_thrown v_mask v_key v_wait v_problem v_code v_length v_cond v_masks v_addr v_mwanted u_105.1 v_after v_calls v_oneB v_twoB u_105.2 v_mkF v_mrF v_wdF v_oneF v_twoF v_mmF)) (wr := [(a_mr, .inl (cI, 16, .inl v_mrF)), (a_wd, .inl (cI, 6, .inl v_wdF)), (a_one, .inl (cI, 80, .inl v_oneF)), (a_two, .inl (cI, 80, .inl v_twoF)), (a_mmade, .inl (cI, 80, .inl v_mmF))]) hP hD [0, 1, 2] [3, 4, 5, 6, 7] [5, 6, 7, 0, 1, 2, 3, 4] rfl rfl (by decide) (by decide) hk9 hFc hB9 ht9 (by decide) rfl
    clear hB9 hk9 hz9 hvm9 ht9 hFc hPc hDc
    generalize H1 = H at hP hS ⊢
    refine lv_goto (tgt := 325) hx hb dX12_indexedOnes_108 (by decide) ?_
    have hf9 : (v_cond, v_addr, u_105.1, v_after, v_oneB, v_twoB, u_105.2, v_mrF, v_oneF, v_twoF, v_mmF) = fX12_indexedOnes x0 v_key v_length v_cond v_masks v_addr v_wrong v_after v_oneB v_twoB v_mF v_mkF v_mrF v_wdF v_oneF v_twoF v_mmF := by subst ex_8; simp only [fX12_indexedOnes, ← er_10, ← eu_105]; (try simp only [if_pos c_15_0])
    exact W.vret hx hb hr (fun t9 ht9 hW9 => ⟨⟨(v_cond, v_addr, u_105.1, v_after, v_oneB, v_twoB, u_105.2, v_mrF, v_oneF, v_twoF, v_mmF), rfl, hf9, ⟨by rw [ht9]; exact hP, va_K.moved hW9.alike hK, hD⟩⟩, hS.F ht9⟩) hS.2.2 dX12_indexedOnes_325
  · skip
    by_cases c_15_1 : x0 = 65
    · skip
      refine lv_tableIn (tgt := 111) (off := 96) hx hb dX12_indexedOnes_15 (by rw [c_15_1]; decide) (by rw [c_15_1]; decide) (by rw [c_15_1]; rfl) (by decide) ?_
      refine lv_aload_n hx hb dX12_indexedOnes_111 rfl (lv_at hl 2 rfl) ?_
      refine va_get (D := D) (ci := 12) (v := .ref a_mr) (C := RX12) (T := TX12) (N := 26) hx hb hts in_X12 hown hK hP 0 rfl rfl 3 (by decide) q_1 (fun _ h9 => h9) rfl dX12_indexedOnes_112 ?_
      refine lv_iload_n hx hb dX12_indexedOnes_115 rfl (lv_at hl 1 rfl) ?_
      refine lv_iload_n hx hb dX12_indexedOnes_116 rfl (lv_at hl 0 rfl) ?_
      refine va_iast hx hb hK hP hD hS 3 0 rfl rfl (by first | with_reducible assumption | exact vin_of (b := 16) (by decide) (by with_reducible assumption) (by with_reducible assumption) | exact vin_of (b := 16) (by decide) (Int32.not_lt.mp (by with_reducible assumption)) (by with_reducible assumption) | exact vin_dn (by decide) (by with_reducible assumption) hI9) dX12_indexedOnes_117 (fun H locs hP hD hS => ?_)
      obtain ⟨f_117, ef_117⟩ : ∃ z : Nat → Int32, z = upd v_mrF (x_8 : Int32).toNatClampNeg (r_10) := ⟨_, rfl⟩
      have hP : va_P D vwCl (wX12_indexedOnes cI cB a_mo a_mem a_mks a_mr a_cnt a_wd a_one a_two a_mmade a_mrest a_old v_thrown v_mask v_key v_wait v_problem v_code v_length v_cond v_masks v_addr v_mwanted v_wrong v_after v_calls v_oneB v_twoB v_mF v_mkF (upd v_mrF (x_8 : Int32).toNatClampNeg (r_10)) v_wdF v_oneF v_twoF v_mmF) H := hP
      have hD : va_D A (wX12_indexedOnes cI cB a_mo a_mem a_mks a_mr a_cnt a_wd a_one a_two a_mmade a_mrest a_old v_thrown v_mask v_key v_wait v_problem v_code v_length v_cond v_masks v_addr v_mwanted v_wrong v_after v_calls v_oneB v_twoB v_mF v_mkF (upd v_mrF (x_8 : Int32).toNatClampNeg (r_10)) v_wdF v_oneF v_twoF v_mmF) := hD
      rw [← ef_117] at hP hD
      refine lv_goto (tgt := 325) hx hb dX12_indexedOnes_118 (by decide) ?_
      have hf9 : (v_cond, v_addr, v_wrong, v_after, v_oneB, v_twoB, v_mF, f_117, v_oneF, v_twoF, v_mmF) = fX12_indexedOnes x0 v_key v_length v_cond v_masks v_addr v_wrong v_after v_oneB v_twoB v_mF v_mkF v_mrF v_wdF v_oneF v_twoF v_mmF := by subst ef_117; subst ex_8; simp only [fX12_indexedOnes, ← er_10]; (try simp only [if_neg c_15_0, if_pos c_15_1])
      exact W.vret hx hb hr (fun t9 ht9 hW9 => ⟨⟨(v_cond, v_addr, v_wrong, v_after, v_oneB, v_twoB, v_mF, f_117, v_oneF, v_twoF, v_mmF), rfl, hf9, ⟨by rw [ht9]; exact hP, va_K.moved hW9.alike hK, hD⟩⟩, hS.F ht9⟩) hS.2.2 dX12_indexedOnes_325
    · skip
      by_cases c_15_2 : x0 = 66
      · skip
        refine lv_tableIn (tgt := 121) (off := 106) hx hb dX12_indexedOnes_15 (by rw [c_15_2]; decide) (by rw [c_15_2]; decide) (by rw [c_15_2]; rfl) (by decide) ?_
        refine lv_aload_n hx hb dX12_indexedOnes_121 rfl (lv_at hl 2 rfl) ?_
        refine lv_iload_n hx hb dX12_indexedOnes_122 rfl (lv_at hl 0 rfl) ?_
        refine lv_aload_n hx hb dX12_indexedOnes_123 rfl (lv_at hl 2 rfl) ?_
        refine va_get (D := D) (ci := 12) (v := .ref a_mr) (C := RX12) (T := TX12) (N := 26) hx hb hts in_X12 hown hK hP 0 rfl rfl 3 (by decide) q_1 (fun _ h9 => h9) rfl dX12_indexedOnes_124 ?_
        refine lv_iload_n hx hb dX12_indexedOnes_127 rfl (lv_at hl 1 rfl) ?_
        refine va_iald hx hb hK hP 3 0 rfl rfl (by first | with_reducible assumption | exact vin_of (b := 16) (by decide) (by with_reducible assumption) (by with_reducible assumption) | exact vin_of (b := 16) (by decide) (Int32.not_lt.mp (by with_reducible assumption)) (by with_reducible assumption) | exact vin_dn (by decide) (by with_reducible assumption) hI9) dX12_indexedOnes_128 ?_
        refine lv_iconst (v := 1) hx hb dX12_indexedOnes_129 (by decide) ?_
        have hPc : va_P D vwCl (wX12_toMemory cI cB a_mo a_mem a_mks a_mr a_cnt a_wd a_one a_two a_mmade a_mrest a_old v_thrown v_mask v_key v_wait v_problem v_code v_length v_cond v_masks v_addr v_mwanted v_wrong v_after v_calls v_oneB v_twoB v_mF v_mkF) H := hP.sub [0, 1, 2] rfl
        have hDc : va_D A (wX12_toMemory cI cB a_mo a_mem a_mks a_mr a_cnt a_wd a_one a_two a_mmade a_mrest a_old v_thrown v_mask v_key v_wait v_problem v_code v_length v_cond v_masks v_addr v_mwanted v_wrong v_after v_calls v_oneB v_twoB v_mF v_mkF) := hD.sub [0, 1, 2] (by decide) rfl
        have hFc := va_free (wc := (wX12_toMemory cI cB a_mo a_mem a_mks a_mr a_cnt a_wd a_one a_two a_mmade a_mrest a_old v_thrown v_mask v_key v_wait v_problem v_code v_length v_cond v_masks v_addr v_mwanted v_wrong v_after v_calls v_oneB v_twoB v_mF v_mkF)) hD hS hA [0, 1, 2] rfl
        refine va_callv (va_runV (As := [.int r_10, .int ((v_mrF (x_8 : Int32).toNatClampNeg)), .int 1]) (rest := []) ⟨hx, hb, hml, hown, hts⟩ (kX12_toMemory l D cI cB a_mo a_mem a_mks a_mr a_cnt a_wd a_one a_two a_mmade a_mrest a_old H.size v_thrown v_mask v_key v_wait v_problem v_code v_length v_cond v_masks v_addr v_mwanted v_wrong v_after v_calls v_oneB v_twoB v_mF v_mkF r_10 (v_mrF (x_8 : Int32).toNatClampNeg) 1 (by first | with_reducible assumption | decide | (unfold vp_in; decide)) (by first | with_reducible assumption | decide | (unfold vp_in; decide)) (by first | with_reducible assumption | decide | (unfold vp_in; decide))) (cwV 3 hts (gd_V wd_942 wd_943 wd_944 wd_807 wd_927) rfl rfl rfl hdX12_toMemory ⟨Nat.le_of_ble_eq_true rfl, Nat.le_of_ble_eq_true rfl⟩) (preV_std (ci := 12) (q0 := 0) hPc hK hDc hNW rfl rfl) rfl rfl hl.1 rfl (lv_room (Nat.le_of_ble_eq_true rfl)) dX12_indexedOnes_130 ⟨Nat.zero_le _, Nat.zero_le _⟩) hS (fun q _ h => hFc q h) hFc (fun u_130 t9 H1 locs ht9 hvm9 hw9 hB9 hz9 hk9 hS => ?_)
        have eu_130 : u_130 = fX12_toMemory r_10 (v_mrF (x_8 : Int32).toNatClampNeg) 1 v_key v_wrong v_mF v_mkF := hw9
        obtain ⟨hP, hD⟩ := back_std (w1 := (wX12_toMemory cI cB a_mo a_mem a_mks a_mr a_cnt a_wd a_one a_two a_mmade a_mrest a_old v_thrown v_mask v_key v_wait v_problem v_code v_length v_cond v_masks v_addr v_mwanted u_130.1 v_after v_calls v_oneB v_twoB u_130.2 v_mkF)) (w2 := (wX12_indexedOnes cI cB a_mo a_mem a_mks a_mr a_cnt a_wd a_one a_two a_mmade a_mrest a_old v_thrown v_mask v_key v_wait v_problem v_code v_length v_cond v_masks v_addr v_mwanted u_130.1 v_after v_calls v_oneB v_twoB u_130.2 v_mkF v_mrF v_wdF v_oneF v_twoF v_mmF)) (wr := [(a_mr, .inl (cI, 16, .inl v_mrF)), (a_wd, .inl (cI, 6, .inl v_wdF)), (a_one, .inl (cI, 80, .inl v_oneF)), (a_two, .inl (cI, 80, .inl v_twoF)), (a_mmade, .inl (cI, 80, .inl v_mmF))]) hP hD [0, 1, 2] [3, 4, 5, 6, 7] [5, 6, 7, 0, 1, 2, 3, 4] rfl rfl (by decide) (by decide) hk9 hFc hB9 ht9 (by decide) rfl
        clear hB9 hk9 hz9 hvm9 ht9 hFc hPc hDc
        generalize H1 = H at hP hS ⊢
        refine lv_goto (tgt := 325) hx hb dX12_indexedOnes_133 (by decide) ?_
        have hf9 : (v_cond, v_addr, u_130.1, v_after, v_oneB, v_twoB, u_130.2, v_mrF, v_oneF, v_twoF, v_mmF) = fX12_indexedOnes x0 v_key v_length v_cond v_masks v_addr v_wrong v_after v_oneB v_twoB v_mF v_mkF v_mrF v_wdF v_oneF v_twoF v_mmF := by subst ex_8; simp only [fX12_indexedOnes, ← er_10, ← eu_130]; (try simp only [if_neg c_15_0, if_neg c_15_1, if_pos c_15_2])
        exact W.vret hx hb hr (fun t9 ht9 hW9 => ⟨⟨(v_cond, v_addr, u_130.1, v_after, v_oneB, v_twoB, u_130.2, v_mrF, v_oneF, v_twoF, v_mmF), rfl, hf9, ⟨by rw [ht9]; exact hP, va_K.moved hW9.alike hK, hD⟩⟩, hS.F ht9⟩) hS.2.2 dX12_indexedOnes_325
      · skip
        by_cases c_15_3 : x0 = 67
        · skip
          refine lv_tableIn (tgt := 136) (off := 121) hx hb dX12_indexedOnes_15 (by rw [c_15_3]; decide) (by rw [c_15_3]; decide) (by rw [c_15_3]; rfl) (by decide) ?_
          refine lv_aload_n hx hb dX12_indexedOnes_136 rfl (lv_at hl 2 rfl) ?_
          refine lv_iload_n hx hb dX12_indexedOnes_137 rfl (lv_at hl 0 rfl) ?_
          refine lv_iconst (v := 1) hx hb dX12_indexedOnes_138 (by decide) ?_
          refine lv_iconst (v := 0) hx hb dX12_indexedOnes_139 (by decide) ?_
          have hPc : va_P D vwCl (wX12_look cI cB a_mo a_mem a_mks a_mr a_cnt a_wd a_one a_two a_mmade a_mrest a_old v_thrown v_mask v_key v_wait v_problem v_code v_length v_cond v_masks v_addr v_mwanted v_wrong v_after v_calls v_oneB v_twoB v_mkF) H := hP.sub [0, 2] rfl
          have hDc : va_D A (wX12_look cI cB a_mo a_mem a_mks a_mr a_cnt a_wd a_one a_two a_mmade a_mrest a_old v_thrown v_mask v_key v_wait v_problem v_code v_length v_cond v_masks v_addr v_mwanted v_wrong v_after v_calls v_oneB v_twoB v_mkF) := hD.sub [0, 2] (by decide) rfl
          have hFc := va_free (wc := (wX12_look cI cB a_mo a_mem a_mks a_mr a_cnt a_wd a_one a_two a_mmade a_mrest a_old v_thrown v_mask v_key v_wait v_problem v_code v_length v_cond v_masks v_addr v_mwanted v_wrong v_after v_calls v_oneB v_twoB v_mkF)) hD hS hA [0, 2] rfl
          refine va_callv (va_runV (As := [.int r_10, .int 1, .int 0]) (rest := []) ⟨hx, hb, hml, hown, hts⟩ (kX12_look l D cI cB a_mo a_mem a_mks a_mr a_cnt a_wd a_one a_two a_mmade a_mrest a_old H.size v_thrown v_mask v_key v_wait v_problem v_code v_length v_cond v_masks v_addr v_mwanted v_wrong v_after v_calls v_oneB v_twoB v_mkF r_10 1 0) (cwV 3 hts (gd_V wd_857 wd_858 wd_859 wd_807 wd_837) rfl rfl rfl hdX12_look ⟨Nat.le_of_ble_eq_true rfl, Nat.le_of_ble_eq_true rfl⟩) (preV_std (ci := 12) (q0 := 0) hPc hK hDc hNW rfl rfl) rfl rfl hl.1 rfl (lv_room (Nat.le_of_ble_eq_true rfl)) dX12_indexedOnes_140 ⟨Nat.zero_le _, Nat.zero_le _⟩) hS (fun q _ h => hFc q h) hFc (fun u_140 t9 H1 locs ht9 hvm9 hw9 hB9 hz9 hk9 hS => ?_)
          have eu_140 : u_140 = fX12_look r_10 1 0 v_key v_wrong v_mkF := hw9
          obtain ⟨hP, hD⟩ := back_std (w1 := (wX12_look cI cB a_mo a_mem a_mks a_mr a_cnt a_wd a_one a_two a_mmade a_mrest a_old v_thrown v_mask v_key v_wait v_problem v_code v_length v_cond v_masks v_addr v_mwanted u_140 v_after v_calls v_oneB v_twoB v_mkF)) (w2 := (wX12_indexedOnes cI cB a_mo a_mem a_mks a_mr a_cnt a_wd a_one a_two a_mmade a_mrest a_old v_thrown v_mask v_key v_wait v_problem v_code v_length v_cond v_masks v_addr v_mwanted u_140 v_after v_calls v_oneB v_twoB v_mF v_mkF v_mrF v_wdF v_oneF v_twoF v_mmF)) (wr := [(a_mem, .inl (cI, 8192, .inl v_mF)), (a_mr, .inl (cI, 16, .inl v_mrF)), (a_wd, .inl (cI, 6, .inl v_wdF)), (a_one, .inl (cI, 80, .inl v_oneF)), (a_two, .inl (cI, 80, .inl v_twoF)), (a_mmade, .inl (cI, 80, .inl v_mmF))]) hP hD [0, 2] [1, 3, 4, 5, 6, 7] [6, 0, 7, 1, 2, 3, 4, 5] rfl rfl (by decide) (by decide) hk9 hFc hB9 ht9 (by decide) rfl
          clear hB9 hk9 hz9 hvm9 ht9 hFc hPc hDc
          generalize H1 = H at hP hS ⊢
          refine lv_aload_n hx hb dX12_indexedOnes_143 rfl (lv_at hl 2 rfl) ?_
          refine va_get (D := D) (ci := 12) (v := .ref a_mr) (C := RX12) (T := TX12) (N := 26) hx hb hts in_X12 hown hK hP 0 rfl rfl 3 (by decide) q_1 (fun _ h9 => h9) rfl dX12_indexedOnes_144 ?_
          refine lv_iload_n hx hb dX12_indexedOnes_147 rfl (lv_at hl 1 rfl) ?_
          refine lv_aload_n hx hb dX12_indexedOnes_148 rfl (lv_at hl 2 rfl) ?_
          refine va_get (D := D) (ci := 12) (v := .int u_140) (C := RX12) (T := TX12) (N := 26) hx hb hts in_X12 hown hK hP 0 rfl rfl 16 (by decide) q_2 (fun _ h9 => h9) rfl dX12_indexedOnes_149 ?_
          have J_181 : ∀ (m_181 : Int32), m_181 = (if u_140 ≤ 0 then ((((v_mrF (x_8 : Int32).toNatClampNeg) &&& (-256 : Int32)) ||| (v_mF (r_10 : Int32).toNatClampNeg))) else ((v_mrF (x_8 : Int32).toNatClampNeg))) → ∀ (H : Heap) (locs : List Loc), va_P D vwCl (wX12_indexedOnes cI cB a_mo a_mem a_mks a_mr a_cnt a_wd a_one a_two a_mmade a_mrest a_old v_thrown v_mask v_key v_wait v_problem v_code v_length v_cond v_masks v_addr v_mwanted u_140 v_after v_calls v_oneB v_twoB v_mF v_mkF v_mrF v_wdF v_oneF v_twoF v_mmF) H → va_D A (wX12_indexedOnes cI cB a_mo a_mem a_mks a_mr a_cnt a_wd a_one a_two a_mmade a_mrest a_old v_thrown v_mask v_key v_wait v_problem v_code v_length v_cond v_masks v_addr v_mwanted u_140 v_after v_calls v_oneB v_twoB v_mF v_mkF v_mrF v_wdF v_oneF v_twoF v_mmF) → va_S A s.heap H locs → ∀ (ls : Array Slot), lv_has ls 4 [(0, .ref a_mo), (1, .int x0), (2, .int x_8), (3, .int r_10)] → W p l e rmX12_indexedOnes s m ([.ref a_mo, .int x0] : List Value).toArray below meth c H locs 0 0 (MQ below (qX12_indexedOnes D cI cB a_mo a_mem a_mks a_mr a_cnt a_wd a_one a_two a_mmade a_mrest a_old v_thrown v_mask v_key v_wait v_problem v_code v_length v_cond v_masks v_addr v_mwanted v_wrong v_after v_calls v_oneB v_twoB v_mF v_mkF v_mrF v_wdF v_oneF v_twoF v_mmF x0 A) ([.ref a_mo, .int x0] : List Value).toArray s 0 0 A) (F0 m 181 ls [.int m_181, .int x_8, .ref a_mr]) := by
            intro m_181 em_181 H locs hP hD hS ls hl
            try dsimp only at em_181
            refine va_iast hx hb hK hP hD hS 3 0 rfl rfl (by first | with_reducible assumption | exact vin_of (b := 16) (by decide) (by with_reducible assumption) (by with_reducible assumption) | exact vin_of (b := 16) (by decide) (Int32.not_lt.mp (by with_reducible assumption)) (by with_reducible assumption) | exact vin_dn (by decide) (by with_reducible assumption) hI9) dX12_indexedOnes_181 (fun H locs hP hD hS => ?_)
            obtain ⟨f_181, ef_181⟩ : ∃ z : Nat → Int32, z = upd v_mrF (x_8 : Int32).toNatClampNeg (m_181) := ⟨_, rfl⟩
            have hP : va_P D vwCl (wX12_indexedOnes cI cB a_mo a_mem a_mks a_mr a_cnt a_wd a_one a_two a_mmade a_mrest a_old v_thrown v_mask v_key v_wait v_problem v_code v_length v_cond v_masks v_addr v_mwanted u_140 v_after v_calls v_oneB v_twoB v_mF v_mkF (upd v_mrF (x_8 : Int32).toNatClampNeg (m_181)) v_wdF v_oneF v_twoF v_mmF) H := hP
            have hD : va_D A (wX12_indexedOnes cI cB a_mo a_mem a_mks a_mr a_cnt a_wd a_one a_two a_mmade a_mrest a_old v_thrown v_mask v_key v_wait v_problem v_code v_length v_cond v_masks v_addr v_mwanted u_140 v_after v_calls v_oneB v_twoB v_mF v_mkF (upd v_mrF (x_8 : Int32).toNatClampNeg (m_181)) v_wdF v_oneF v_twoF v_mmF) := hD
            rw [← ef_181] at hP hD
            refine lv_goto (tgt := 325) hx hb dX12_indexedOnes_182 (by decide) ?_
            have hf9 : (v_cond, v_addr, u_140, v_after, v_oneB, v_twoB, v_mF, f_181, v_oneF, v_twoF, v_mmF) = fX12_indexedOnes x0 v_key v_length v_cond v_masks v_addr v_wrong v_after v_oneB v_twoB v_mF v_mkF v_mrF v_wdF v_oneF v_twoF v_mmF := by subst ef_181; subst ex_8; simp only [fX12_indexedOnes, ← er_10, ← eu_140, ← em_181]; (try simp only [if_neg c_15_0, if_neg c_15_1, if_neg c_15_2, if_pos c_15_3])
            exact W.vret hx hb hr (fun t9 ht9 hW9 => ⟨⟨(v_cond, v_addr, u_140, v_after, v_oneB, v_twoB, v_mF, f_181, v_oneF, v_twoF, v_mmF), rfl, hf9, ⟨by rw [ht9]; exact hP, va_K.moved hW9.alike hK, hD⟩⟩, hS.F ht9⟩) hS.2.2 dX12_indexedOnes_325
          refine lv_if_le (tgt := 164) hx hb dX12_indexedOnes_152 (by decide) (fun c_152 => ?_) (fun c_152 => ?_)
          · skip
            refine lv_aload_n hx hb dX12_indexedOnes_164 rfl (lv_at hl 2 rfl) ?_
            refine va_get (D := D) (ci := 12) (v := .ref a_mr) (C := RX12) (T := TX12) (N := 26) hx hb hts in_X12 hown hK hP 0 rfl rfl 3 (by decide) q_1 (fun _ h9 => h9) rfl dX12_indexedOnes_165 ?_
            refine lv_iload_n hx hb dX12_indexedOnes_168 rfl (lv_at hl 1 rfl) ?_
            refine va_iald hx hb hK hP 3 0 rfl rfl (by first | with_reducible assumption | exact vin_of (b := 16) (by decide) (by with_reducible assumption) (by with_reducible assumption) | exact vin_of (b := 16) (by decide) (Int32.not_lt.mp (by with_reducible assumption)) (by with_reducible assumption) | exact vin_dn (by decide) (by with_reducible assumption) hI9) dX12_indexedOnes_169 ?_
            refine lv_sipush (v := (-256)) hx hb dX12_indexedOnes_170 (by decide) ?_
            refine lv_iand hx hb dX12_indexedOnes_173 ?_
            refine lv_aload_n hx hb dX12_indexedOnes_174 rfl (lv_at hl 2 rfl) ?_
            refine va_get (D := D) (ci := 12) (v := .ref a_mem) (C := RX12) (T := TX12) (N := 26) hx hb hts in_X12 hown hK hP 0 rfl rfl 1 (by decide) q_3 (fun _ h9 => h9) rfl dX12_indexedOnes_175 ?_
            refine lv_iload_n hx hb dX12_indexedOnes_178 rfl (lv_at hl 0 rfl) ?_
            refine va_iald hx hb hK hP 1 0 rfl rfl (lk_in ha hw eu_140 c_152) dX12_indexedOnes_179 ?_
            refine lv_ior hx hb dX12_indexedOnes_180 ?_
            exact J_181 (((v_mrF (x_8 : Int32).toNatClampNeg) &&& (-256 : Int32)) ||| (v_mF (r_10 : Int32).toNatClampNeg)) (by (try simp only [if_pos c_152])) _ _ hP hD hS ls (lv_sub hl [2, 3, 1, 0] rfl)
          · skip
            refine lv_aload_n hx hb dX12_indexedOnes_155 rfl (lv_at hl 2 rfl) ?_
            refine va_get (D := D) (ci := 12) (v := .ref a_mr) (C := RX12) (T := TX12) (N := 26) hx hb hts in_X12 hown hK hP 0 rfl rfl 3 (by decide) q_1 (fun _ h9 => h9) rfl dX12_indexedOnes_156 ?_
            refine lv_iload_n hx hb dX12_indexedOnes_159 rfl (lv_at hl 1 rfl) ?_
            refine va_iald hx hb hK hP 3 0 rfl rfl (by first | with_reducible assumption | exact vin_of (b := 16) (by decide) (by with_reducible assumption) (by with_reducible assumption) | exact vin_of (b := 16) (by decide) (Int32.not_lt.mp (by with_reducible assumption)) (by with_reducible assumption) | exact vin_dn (by decide) (by with_reducible assumption) hI9) dX12_indexedOnes_160 ?_
            refine lv_goto (tgt := 181) hx hb dX12_indexedOnes_161 (by decide) ?_
            exact J_181 (v_mrF (x_8 : Int32).toNatClampNeg) (by (try simp only [if_neg c_152])) _ _ hP hD hS ls (lv_sub hl [2, 3, 1, 0] rfl)
        · skip
          by_cases c_15_4 : x0 = 69
          · skip
            refine lv_tableIn (tgt := 185) (off := 170) hx hb dX12_indexedOnes_15 (by rw [c_15_4]; decide) (by rw [c_15_4]; decide) (by rw [c_15_4]; rfl) (by decide) ?_
            refine lv_aload_n hx hb dX12_indexedOnes_185 rfl (lv_at hl 2 rfl) ?_
            refine va_get (D := D) (ci := 12) (v := .ref a_mr) (C := RX12) (T := TX12) (N := 26) hx hb hts in_X12 hown hK hP 0 rfl rfl 3 (by decide) q_1 (fun _ h9 => h9) rfl dX12_indexedOnes_186 ?_
            refine lv_iload_n hx hb dX12_indexedOnes_189 rfl (lv_at hl 1 rfl) ?_
            refine lv_aload_n hx hb dX12_indexedOnes_190 rfl (lv_at hl 2 rfl) ?_
            have hPc : va_P D vwCl (wX12_low cI cB a_mo a_mem a_mks a_mr a_cnt a_wd a_one a_two a_mmade a_mrest a_old v_thrown v_mask v_key v_wait v_problem v_code v_length v_cond v_masks v_addr v_mwanted v_wrong v_after v_calls v_oneB v_twoB) H := hP.sub [0] rfl
            have hDc : va_D A (wX12_low cI cB a_mo a_mem a_mks a_mr a_cnt a_wd a_one a_two a_mmade a_mrest a_old v_thrown v_mask v_key v_wait v_problem v_code v_length v_cond v_masks v_addr v_mwanted v_wrong v_after v_calls v_oneB v_twoB) := hD.sub [0] (by decide) rfl
            have hFc := va_free (wc := (wX12_low cI cB a_mo a_mem a_mks a_mr a_cnt a_wd a_one a_two a_mmade a_mrest a_old v_thrown v_mask v_key v_wait v_problem v_code v_length v_cond v_masks v_addr v_mwanted v_wrong v_after v_calls v_oneB v_twoB)) hD hS hA [0] rfl
            refine va_calli (va_runV (As := []) (rest := [.int x_8, .ref a_mr]) ⟨hx, hb, hml, hown, hts⟩ (kX12_low l D cI cB a_mo a_mem a_mks a_mr a_cnt a_wd a_one a_two a_mmade a_mrest a_old H.size v_thrown v_mask v_key v_wait v_problem v_code v_length v_cond v_masks v_addr v_mwanted v_wrong v_after v_calls v_oneB v_twoB ) (cwV 0 hts (gd_V wd_804 wd_805 wd_806 wd_807 wd_790) rfl rfl rfl hdX12_low ⟨Nat.le_of_ble_eq_true rfl, Nat.le_of_ble_eq_true rfl⟩) (preV_std (ci := 12) (q0 := 0) hPc hK hDc hNW rfl rfl) rfl rfl hl.1 rfl (lv_room (Nat.le_of_ble_eq_true rfl)) dX12_indexedOnes_191 ⟨Nat.zero_le _, Nat.zero_le _⟩) hS (fun q _ h => hFc q h) hFc (fun r_191 u_191 t9 H1 locs ht9 hvm9 hw9 hB9 hz9 hk9 hS => ?_)
            have er_191 : r_191 = fX12_low v_length v_cond v_masks v_addr := hw9
            obtain ⟨hP, hD⟩ := back_std (w1 := (wX12_low cI cB a_mo a_mem a_mks a_mr a_cnt a_wd a_one a_two a_mmade a_mrest a_old v_thrown v_mask v_key v_wait v_problem v_code v_length v_cond v_masks v_addr v_mwanted v_wrong v_after v_calls v_oneB v_twoB)) (w2 := (wX12_indexedOnes cI cB a_mo a_mem a_mks a_mr a_cnt a_wd a_one a_two a_mmade a_mrest a_old v_thrown v_mask v_key v_wait v_problem v_code v_length v_cond v_masks v_addr v_mwanted v_wrong v_after v_calls v_oneB v_twoB v_mF v_mkF v_mrF v_wdF v_oneF v_twoF v_mmF)) (wr := [(a_mem, .inl (cI, 8192, .inl v_mF)), (a_mks, .inl (cI, 4, .inl v_mkF)), (a_mr, .inl (cI, 16, .inl v_mrF)), (a_wd, .inl (cI, 6, .inl v_wdF)), (a_one, .inl (cI, 80, .inl v_oneF)), (a_two, .inl (cI, 80, .inl v_twoF)), (a_mmade, .inl (cI, 80, .inl v_mmF))]) hP hD [0] [1, 2, 3, 4, 5, 6, 7] [7, 0, 1, 2, 3, 4, 5, 6] rfl rfl (by decide) (by decide) hk9 hFc hB9 ht9 (by decide) rfl
            clear hB9 hk9 hz9 hvm9 ht9 hFc hPc hDc
            generalize H1 = H at hP hS ⊢
            refine va_iast hx hb hK hP hD hS 3 0 rfl rfl (by first | with_reducible assumption | exact vin_of (b := 16) (by decide) (by with_reducible assumption) (by with_reducible assumption) | exact vin_of (b := 16) (by decide) (Int32.not_lt.mp (by with_reducible assumption)) (by with_reducible assumption) | exact vin_dn (by decide) (by with_reducible assumption) hI9) dX12_indexedOnes_194 (fun H locs hP hD hS => ?_)
            obtain ⟨f_194, ef_194⟩ : ∃ z : Nat → Int32, z = upd v_mrF (x_8 : Int32).toNatClampNeg (r_191) := ⟨_, rfl⟩
            have hP : va_P D vwCl (wX12_indexedOnes cI cB a_mo a_mem a_mks a_mr a_cnt a_wd a_one a_two a_mmade a_mrest a_old v_thrown v_mask v_key v_wait v_problem v_code v_length v_cond v_masks v_addr v_mwanted v_wrong v_after v_calls v_oneB v_twoB v_mF v_mkF (upd v_mrF (x_8 : Int32).toNatClampNeg (r_191)) v_wdF v_oneF v_twoF v_mmF) H := hP
            have hD : va_D A (wX12_indexedOnes cI cB a_mo a_mem a_mks a_mr a_cnt a_wd a_one a_two a_mmade a_mrest a_old v_thrown v_mask v_key v_wait v_problem v_code v_length v_cond v_masks v_addr v_mwanted v_wrong v_after v_calls v_oneB v_twoB v_mF v_mkF (upd v_mrF (x_8 : Int32).toNatClampNeg (r_191)) v_wdF v_oneF v_twoF v_mmF) := hD
            rw [← ef_194] at hP hD
            refine lv_aload_n hx hb dX12_indexedOnes_195 rfl (lv_at hl 2 rfl) ?_
            refine lv_iload_n hx hb dX12_indexedOnes_196 rfl (lv_at hl 0 rfl) ?_
            have hPc : va_P D vwCl (wX12_branchTo cI cB a_mo a_mem a_mks a_mr a_cnt a_wd a_one a_two a_mmade a_mrest a_old v_thrown v_mask v_key v_wait v_problem v_code v_length v_cond v_masks v_addr v_mwanted v_wrong v_after v_calls v_oneB v_twoB) H := hP.sub [0] rfl
            have hDc : va_D A (wX12_branchTo cI cB a_mo a_mem a_mks a_mr a_cnt a_wd a_one a_two a_mmade a_mrest a_old v_thrown v_mask v_key v_wait v_problem v_code v_length v_cond v_masks v_addr v_mwanted v_wrong v_after v_calls v_oneB v_twoB) := hD.sub [0] (by decide) rfl
            have hFc := va_free (wc := (wX12_branchTo cI cB a_mo a_mem a_mks a_mr a_cnt a_wd a_one a_two a_mmade a_mrest a_old v_thrown v_mask v_key v_wait v_problem v_code v_length v_cond v_masks v_addr v_mwanted v_wrong v_after v_calls v_oneB v_twoB)) hD hS hA [0] rfl
            refine va_callv (va_runV (As := [.int r_10]) (rest := []) ⟨hx, hb, hml, hown, hts⟩ (kX12_branchTo l D cI cB a_mo a_mem a_mks a_mr a_cnt a_wd a_one a_two a_mmade a_mrest a_old H.size v_thrown v_mask v_key v_wait v_problem v_code v_length v_cond v_masks v_addr v_mwanted v_wrong v_after v_calls v_oneB v_twoB r_10) (cwV 1 hts (gd_V wd_917 wd_918 wd_919 wd_807 wd_911) rfl rfl rfl hdX12_branchTo ⟨Nat.le_of_ble_eq_true rfl, Nat.le_of_ble_eq_true rfl⟩) (preV_std (ci := 12) (q0 := 0) hPc hK hDc hNW rfl rfl) rfl rfl hl.1 rfl (lv_room (Nat.le_of_ble_eq_true rfl)) dX12_indexedOnes_197 ⟨Nat.zero_le _, Nat.zero_le _⟩) hS (fun q _ h => hFc q h) hFc (fun u_197 t9 H1 locs ht9 hvm9 hw9 hB9 hz9 hk9 hS => ?_)
            have eu_197 : u_197 = fX12_branchTo r_10 v_addr := hw9
            obtain ⟨hP, hD⟩ := back_std (w1 := (wX12_branchTo cI cB a_mo a_mem a_mks a_mr a_cnt a_wd a_one a_two a_mmade a_mrest a_old v_thrown v_mask v_key v_wait v_problem v_code v_length v_cond v_masks u_197 v_mwanted v_wrong v_after v_calls v_oneB v_twoB)) (w2 := (wX12_indexedOnes cI cB a_mo a_mem a_mks a_mr a_cnt a_wd a_one a_two a_mmade a_mrest a_old v_thrown v_mask v_key v_wait v_problem v_code v_length v_cond v_masks u_197 v_mwanted v_wrong v_after v_calls v_oneB v_twoB v_mF v_mkF f_194 v_wdF v_oneF v_twoF v_mmF)) (wr := [(a_mem, .inl (cI, 8192, .inl v_mF)), (a_mks, .inl (cI, 4, .inl v_mkF)), (a_mr, .inl (cI, 16, .inl f_194)), (a_wd, .inl (cI, 6, .inl v_wdF)), (a_one, .inl (cI, 80, .inl v_oneF)), (a_two, .inl (cI, 80, .inl v_twoF)), (a_mmade, .inl (cI, 80, .inl v_mmF))]) hP hD [0] [1, 2, 3, 4, 5, 6, 7] [7, 0, 1, 2, 3, 4, 5, 6] rfl rfl (by decide) (by decide) hk9 hFc hB9 ht9 (by decide) rfl
            clear hB9 hk9 hz9 hvm9 ht9 hFc hPc hDc
            generalize H1 = H at hP hS ⊢
            refine lv_goto (tgt := 325) hx hb dX12_indexedOnes_200 (by decide) ?_
            have hf9 : (v_cond, u_197, v_wrong, v_after, v_oneB, v_twoB, v_mF, f_194, v_oneF, v_twoF, v_mmF) = fX12_indexedOnes x0 v_key v_length v_cond v_masks v_addr v_wrong v_after v_oneB v_twoB v_mF v_mkF v_mrF v_wdF v_oneF v_twoF v_mmF := by subst ef_194; subst ex_8; simp only [fX12_indexedOnes, ← er_10, ← er_191, ← eu_197]; (try simp only [if_neg c_15_0, if_neg c_15_1, if_neg c_15_2, if_neg c_15_3, if_pos c_15_4])
            exact W.vret hx hb hr (fun t9 ht9 hW9 => ⟨⟨(v_cond, u_197, v_wrong, v_after, v_oneB, v_twoB, v_mF, f_194, v_oneF, v_twoF, v_mmF), rfl, hf9, ⟨by rw [ht9]; exact hP, va_K.moved hW9.alike hK, hD⟩⟩, hS.F ht9⟩) hS.2.2 dX12_indexedOnes_325
          · skip
            by_cases c_15_5 : x0 = 70
            · skip
              refine lv_tableIn (tgt := 203) (off := 188) hx hb dX12_indexedOnes_15 (by rw [c_15_5]; decide) (by rw [c_15_5]; decide) (by rw [c_15_5]; rfl) (by decide) ?_
              refine lv_aload_n hx hb dX12_indexedOnes_203 rfl (lv_at hl 2 rfl) ?_
              refine va_get (D := D) (ci := 12) (v := .ref a_mr) (C := RX12) (T := TX12) (N := 26) hx hb hts in_X12 hown hK hP 0 rfl rfl 3 (by decide) q_1 (fun _ h9 => h9) rfl dX12_indexedOnes_204 ?_
              refine lv_iload_n hx hb dX12_indexedOnes_207 rfl (lv_at hl 1 rfl) ?_
              refine lv_dup2_11 hx hb dX12_indexedOnes_208 rfl rfl ?_
              refine va_iald hx hb hK hP 3 0 rfl rfl (by first | with_reducible assumption | exact vin_of (b := 16) (by decide) (by with_reducible assumption) (by with_reducible assumption) | exact vin_of (b := 16) (by decide) (Int32.not_lt.mp (by with_reducible assumption)) (by with_reducible assumption) | exact vin_dn (by decide) (by with_reducible assumption) hI9) dX12_indexedOnes_209 ?_
              refine lv_iconst (v := 1) hx hb dX12_indexedOnes_210 (by decide) ?_
              refine lv_isub hx hb dX12_indexedOnes_211 ?_
              refine va_iast hx hb hK hP hD hS 3 0 rfl rfl (by first | with_reducible assumption | exact vin_of (b := 16) (by decide) (by with_reducible assumption) (by with_reducible assumption) | exact vin_of (b := 16) (by decide) (Int32.not_lt.mp (by with_reducible assumption)) (by with_reducible assumption) | exact vin_dn (by decide) (by with_reducible assumption) hI9) dX12_indexedOnes_212 (fun H locs hP hD hS => ?_)
              obtain ⟨f_212, ef_212⟩ : ∃ z : Nat → Int32, z = upd v_mrF (x_8 : Int32).toNatClampNeg (((v_mrF (x_8 : Int32).toNatClampNeg) - 1)) := ⟨_, rfl⟩
              have hP : va_P D vwCl (wX12_indexedOnes cI cB a_mo a_mem a_mks a_mr a_cnt a_wd a_one a_two a_mmade a_mrest a_old v_thrown v_mask v_key v_wait v_problem v_code v_length v_cond v_masks v_addr v_mwanted v_wrong v_after v_calls v_oneB v_twoB v_mF v_mkF (upd v_mrF (x_8 : Int32).toNatClampNeg (((v_mrF (x_8 : Int32).toNatClampNeg) - 1))) v_wdF v_oneF v_twoF v_mmF) H := hP
              have hD : va_D A (wX12_indexedOnes cI cB a_mo a_mem a_mks a_mr a_cnt a_wd a_one a_two a_mmade a_mrest a_old v_thrown v_mask v_key v_wait v_problem v_code v_length v_cond v_masks v_addr v_mwanted v_wrong v_after v_calls v_oneB v_twoB v_mF v_mkF (upd v_mrF (x_8 : Int32).toNatClampNeg (((v_mrF (x_8 : Int32).toNatClampNeg) - 1))) v_wdF v_oneF v_twoF v_mmF) := hD
              rw [← ef_212] at hP hD
              refine lv_aload_n hx hb dX12_indexedOnes_213 rfl (lv_at hl 2 rfl) ?_
              refine va_get (D := D) (ci := 12) (v := .ref a_mr) (C := RX12) (T := TX12) (N := 26) hx hb hts in_X12 hown hK hP 0 rfl rfl 3 (by decide) q_1 (fun _ h9 => h9) rfl dX12_indexedOnes_214 ?_
              refine lv_iload_n hx hb dX12_indexedOnes_217 rfl (lv_at hl 1 rfl) ?_
              refine va_iald hx hb hK hP 3 0 rfl rfl (by first | with_reducible assumption | exact vin_of (b := 16) (by decide) (by with_reducible assumption) (by with_reducible assumption) | exact vin_of (b := 16) (by decide) (Int32.not_lt.mp (by with_reducible assumption)) (by with_reducible assumption) | exact vin_dn (by decide) (by with_reducible assumption) hI9) dX12_indexedOnes_218 ?_
              refine lv_if_eq (tgt := 325) hx hb dX12_indexedOnes_219 (by decide) (fun c_219 => ?_) (fun c_219 => ?_)
              · skip
                have hf9 : (v_cond, v_addr, v_wrong, v_after, v_oneB, v_twoB, v_mF, f_212, v_oneF, v_twoF, v_mmF) = fX12_indexedOnes x0 v_key v_length v_cond v_masks v_addr v_wrong v_after v_oneB v_twoB v_mF v_mkF v_mrF v_wdF v_oneF v_twoF v_mmF := by subst ef_212; subst ex_8; simp only [fX12_indexedOnes, ← er_10]; (try simp only [if_neg c_15_0, if_neg c_15_1, if_neg c_15_2, if_neg c_15_3, if_neg c_15_4, if_pos c_15_5, if_pos c_219])
                exact W.vret hx hb hr (fun t9 ht9 hW9 => ⟨⟨(v_cond, v_addr, v_wrong, v_after, v_oneB, v_twoB, v_mF, f_212, v_oneF, v_twoF, v_mmF), rfl, hf9, ⟨by rw [ht9]; exact hP, va_K.moved hW9.alike hK, hD⟩⟩, hS.F ht9⟩) hS.2.2 dX12_indexedOnes_325
              · skip
                refine lv_aload_n hx hb dX12_indexedOnes_222 rfl (lv_at hl 2 rfl) ?_
                refine lv_iload_n hx hb dX12_indexedOnes_223 rfl (lv_at hl 0 rfl) ?_
                have hPc : va_P D vwCl (wX12_branchTo cI cB a_mo a_mem a_mks a_mr a_cnt a_wd a_one a_two a_mmade a_mrest a_old v_thrown v_mask v_key v_wait v_problem v_code v_length v_cond v_masks v_addr v_mwanted v_wrong v_after v_calls v_oneB v_twoB) H := hP.sub [0] rfl
                have hDc : va_D A (wX12_branchTo cI cB a_mo a_mem a_mks a_mr a_cnt a_wd a_one a_two a_mmade a_mrest a_old v_thrown v_mask v_key v_wait v_problem v_code v_length v_cond v_masks v_addr v_mwanted v_wrong v_after v_calls v_oneB v_twoB) := hD.sub [0] (by decide) rfl
                have hFc := va_free (wc := (wX12_branchTo cI cB a_mo a_mem a_mks a_mr a_cnt a_wd a_one a_two a_mmade a_mrest a_old v_thrown v_mask v_key v_wait v_problem v_code v_length v_cond v_masks v_addr v_mwanted v_wrong v_after v_calls v_oneB v_twoB)) hD hS hA [0] rfl
                refine va_callv (va_runV (As := [.int r_10]) (rest := []) ⟨hx, hb, hml, hown, hts⟩ (kX12_branchTo l D cI cB a_mo a_mem a_mks a_mr a_cnt a_wd a_one a_two a_mmade a_mrest a_old H.size v_thrown v_mask v_key v_wait v_problem v_code v_length v_cond v_masks v_addr v_mwanted v_wrong v_after v_calls v_oneB v_twoB r_10) (cwV 1 hts (gd_V wd_917 wd_918 wd_919 wd_807 wd_911) rfl rfl rfl hdX12_branchTo ⟨Nat.le_of_ble_eq_true rfl, Nat.le_of_ble_eq_true rfl⟩) (preV_std (ci := 12) (q0 := 0) hPc hK hDc hNW rfl rfl) rfl rfl hl.1 rfl (lv_room (Nat.le_of_ble_eq_true rfl)) dX12_indexedOnes_224 ⟨Nat.zero_le _, Nat.zero_le _⟩) hS (fun q _ h => hFc q h) hFc (fun u_224 t9 H1 locs ht9 hvm9 hw9 hB9 hz9 hk9 hS => ?_)
                have eu_224 : u_224 = fX12_branchTo r_10 v_addr := hw9
                obtain ⟨hP, hD⟩ := back_std (w1 := (wX12_branchTo cI cB a_mo a_mem a_mks a_mr a_cnt a_wd a_one a_two a_mmade a_mrest a_old v_thrown v_mask v_key v_wait v_problem v_code v_length v_cond v_masks u_224 v_mwanted v_wrong v_after v_calls v_oneB v_twoB)) (w2 := (wX12_indexedOnes cI cB a_mo a_mem a_mks a_mr a_cnt a_wd a_one a_two a_mmade a_mrest a_old v_thrown v_mask v_key v_wait v_problem v_code v_length v_cond v_masks u_224 v_mwanted v_wrong v_after v_calls v_oneB v_twoB v_mF v_mkF f_212 v_wdF v_oneF v_twoF v_mmF)) (wr := [(a_mem, .inl (cI, 8192, .inl v_mF)), (a_mks, .inl (cI, 4, .inl v_mkF)), (a_mr, .inl (cI, 16, .inl f_212)), (a_wd, .inl (cI, 6, .inl v_wdF)), (a_one, .inl (cI, 80, .inl v_oneF)), (a_two, .inl (cI, 80, .inl v_twoF)), (a_mmade, .inl (cI, 80, .inl v_mmF))]) hP hD [0] [1, 2, 3, 4, 5, 6, 7] [7, 0, 1, 2, 3, 4, 5, 6] rfl rfl (by decide) (by decide) hk9 hFc hB9 ht9 (by decide) rfl
                clear hB9 hk9 hz9 hvm9 ht9 hFc hPc hDc
                generalize H1 = H at hP hS ⊢
                refine lv_goto (tgt := 325) hx hb dX12_indexedOnes_227 (by decide) ?_
                have hf9 : (v_cond, u_224, v_wrong, v_after, v_oneB, v_twoB, v_mF, f_212, v_oneF, v_twoF, v_mmF) = fX12_indexedOnes x0 v_key v_length v_cond v_masks v_addr v_wrong v_after v_oneB v_twoB v_mF v_mkF v_mrF v_wdF v_oneF v_twoF v_mmF := by subst ef_212; subst ex_8; simp only [fX12_indexedOnes, ← er_10, ← eu_224]; (try simp only [if_neg c_15_0, if_neg c_15_1, if_neg c_15_2, if_neg c_15_3, if_neg c_15_4, if_pos c_15_5, if_neg c_219])
                exact W.vret hx hb hr (fun t9 ht9 hW9 => ⟨⟨(v_cond, u_224, v_wrong, v_after, v_oneB, v_twoB, v_mF, f_212, v_oneF, v_twoF, v_mmF), rfl, hf9, ⟨by rw [ht9]; exact hP, va_K.moved hW9.alike hK, hD⟩⟩, hS.F ht9⟩) hS.2.2 dX12_indexedOnes_325
            · skip
              by_cases c_15_6 : x0 = 71
              · skip
                refine lv_tableIn (tgt := 230) (off := 215) hx hb dX12_indexedOnes_15 (by rw [c_15_6]; decide) (by rw [c_15_6]; decide) (by rw [c_15_6]; rfl) (by decide) ?_
                refine lv_iload_n hx hb dX12_indexedOnes_230 rfl (lv_at hl 1 rfl) ?_
                refine lv_iconst (v := 3) hx hb dX12_indexedOnes_231 (by decide) ?_
                refine lv_aload_n hx hb dX12_indexedOnes_232 rfl (lv_at hl 2 rfl) ?_
                refine va_get (D := D) (ci := 12) (v := .int v_cond) (C := RX12) (T := TX12) (N := 26) hx hb hts in_X12 hown hK hP 0 rfl rfl 10 (by decide) q_4 (fun _ h9 => h9) rfl dX12_indexedOnes_233 ?_
                refine lv_isub hx hb dX12_indexedOnes_236 ?_
                refine lv_ishr hx hb dX12_indexedOnes_237 ?_
                refine lv_iconst (v := 1) hx hb dX12_indexedOnes_238 (by decide) ?_
                refine lv_iand hx hb dX12_indexedOnes_239 ?_
                refine lv_iconst (v := 1) hx hb dX12_indexedOnes_240 (by decide) ?_
                refine lv_icmp_ne (tgt := 325) hx hb dX12_indexedOnes_241 (by decide) (fun c_241 => ?_) (fun c_241 => ?_)
                · skip
                  have hf9 : (v_cond, v_addr, v_wrong, v_after, v_oneB, v_twoB, v_mF, v_mrF, v_oneF, v_twoF, v_mmF) = fX12_indexedOnes x0 v_key v_length v_cond v_masks v_addr v_wrong v_after v_oneB v_twoB v_mF v_mkF v_mrF v_wdF v_oneF v_twoF v_mmF := by subst ex_8; simp only [fX12_indexedOnes, ← er_10]; (try simp only [if_neg c_15_0, if_neg c_15_1, if_neg c_15_2, if_neg c_15_3, if_neg c_15_4, if_neg c_15_5, if_pos c_15_6, if_neg c_241])
                  exact W.vret hx hb hr (fun t9 ht9 hW9 => ⟨⟨(v_cond, v_addr, v_wrong, v_after, v_oneB, v_twoB, v_mF, v_mrF, v_oneF, v_twoF, v_mmF), rfl, hf9, ⟨by rw [ht9]; exact hP, va_K.moved hW9.alike hK, hD⟩⟩, hS.F ht9⟩) hS.2.2 dX12_indexedOnes_325
                · skip
                  refine lv_aload_n hx hb dX12_indexedOnes_244 rfl (lv_at hl 2 rfl) ?_
                  refine lv_iload_n hx hb dX12_indexedOnes_245 rfl (lv_at hl 0 rfl) ?_
                  have hPc : va_P D vwCl (wX12_branchTo cI cB a_mo a_mem a_mks a_mr a_cnt a_wd a_one a_two a_mmade a_mrest a_old v_thrown v_mask v_key v_wait v_problem v_code v_length v_cond v_masks v_addr v_mwanted v_wrong v_after v_calls v_oneB v_twoB) H := hP.sub [0] rfl
                  have hDc : va_D A (wX12_branchTo cI cB a_mo a_mem a_mks a_mr a_cnt a_wd a_one a_two a_mmade a_mrest a_old v_thrown v_mask v_key v_wait v_problem v_code v_length v_cond v_masks v_addr v_mwanted v_wrong v_after v_calls v_oneB v_twoB) := hD.sub [0] (by decide) rfl
                  have hFc := va_free (wc := (wX12_branchTo cI cB a_mo a_mem a_mks a_mr a_cnt a_wd a_one a_two a_mmade a_mrest a_old v_thrown v_mask v_key v_wait v_problem v_code v_length v_cond v_masks v_addr v_mwanted v_wrong v_after v_calls v_oneB v_twoB)) hD hS hA [0] rfl
                  refine va_callv (va_runV (As := [.int r_10]) (rest := []) ⟨hx, hb, hml, hown, hts⟩ (kX12_branchTo l D cI cB a_mo a_mem a_mks a_mr a_cnt a_wd a_one a_two a_mmade a_mrest a_old H.size v_thrown v_mask v_key v_wait v_problem v_code v_length v_cond v_masks v_addr v_mwanted v_wrong v_after v_calls v_oneB v_twoB r_10) (cwV 1 hts (gd_V wd_917 wd_918 wd_919 wd_807 wd_911) rfl rfl rfl hdX12_branchTo ⟨Nat.le_of_ble_eq_true rfl, Nat.le_of_ble_eq_true rfl⟩) (preV_std (ci := 12) (q0 := 0) hPc hK hDc hNW rfl rfl) rfl rfl hl.1 rfl (lv_room (Nat.le_of_ble_eq_true rfl)) dX12_indexedOnes_246 ⟨Nat.zero_le _, Nat.zero_le _⟩) hS (fun q _ h => hFc q h) hFc (fun u_246 t9 H1 locs ht9 hvm9 hw9 hB9 hz9 hk9 hS => ?_)
                  have eu_246 : u_246 = fX12_branchTo r_10 v_addr := hw9
                  obtain ⟨hP, hD⟩ := back_std (w1 := (wX12_branchTo cI cB a_mo a_mem a_mks a_mr a_cnt a_wd a_one a_two a_mmade a_mrest a_old v_thrown v_mask v_key v_wait v_problem v_code v_length v_cond v_masks u_246 v_mwanted v_wrong v_after v_calls v_oneB v_twoB)) (w2 := (wX12_indexedOnes cI cB a_mo a_mem a_mks a_mr a_cnt a_wd a_one a_two a_mmade a_mrest a_old v_thrown v_mask v_key v_wait v_problem v_code v_length v_cond v_masks u_246 v_mwanted v_wrong v_after v_calls v_oneB v_twoB v_mF v_mkF v_mrF v_wdF v_oneF v_twoF v_mmF)) (wr := [(a_mem, .inl (cI, 8192, .inl v_mF)), (a_mks, .inl (cI, 4, .inl v_mkF)), (a_mr, .inl (cI, 16, .inl v_mrF)), (a_wd, .inl (cI, 6, .inl v_wdF)), (a_one, .inl (cI, 80, .inl v_oneF)), (a_two, .inl (cI, 80, .inl v_twoF)), (a_mmade, .inl (cI, 80, .inl v_mmF))]) hP hD [0] [1, 2, 3, 4, 5, 6, 7] [7, 0, 1, 2, 3, 4, 5, 6] rfl rfl (by decide) (by decide) hk9 hFc hB9 ht9 (by decide) rfl
                  clear hB9 hk9 hz9 hvm9 ht9 hFc hPc hDc
                  generalize H1 = H at hP hS ⊢
                  refine lv_goto (tgt := 325) hx hb dX12_indexedOnes_249 (by decide) ?_
                  have hf9 : (v_cond, u_246, v_wrong, v_after, v_oneB, v_twoB, v_mF, v_mrF, v_oneF, v_twoF, v_mmF) = fX12_indexedOnes x0 v_key v_length v_cond v_masks v_addr v_wrong v_after v_oneB v_twoB v_mF v_mkF v_mrF v_wdF v_oneF v_twoF v_mmF := by subst ex_8; simp only [fX12_indexedOnes, ← er_10, ← eu_246]; (try simp only [if_neg c_15_0, if_neg c_15_1, if_neg c_15_2, if_neg c_15_3, if_neg c_15_4, if_neg c_15_5, if_pos c_15_6, if_pos c_241])
                  exact W.vret hx hb hr (fun t9 ht9 hW9 => ⟨⟨(v_cond, u_246, v_wrong, v_after, v_oneB, v_twoB, v_mF, v_mrF, v_oneF, v_twoF, v_mmF), rfl, hf9, ⟨by rw [ht9]; exact hP, va_K.moved hW9.alike hK, hD⟩⟩, hS.F ht9⟩) hS.2.2 dX12_indexedOnes_325
              · skip
                by_cases c_15_7 : x0 = 77
                · skip
                  refine lv_tableIn (tgt := 290) (off := 275) hx hb dX12_indexedOnes_15 (by rw [c_15_7]; decide) (by rw [c_15_7]; decide) (by rw [c_15_7]; rfl) (by decide) ?_
                  refine lv_aload_n hx hb dX12_indexedOnes_290 rfl (lv_at hl 2 rfl) ?_
                  refine lv_iconst (v := 1) hx hb dX12_indexedOnes_291 (by decide) ?_
                  have hPc : va_P D vwCl (wX12_meet cI cB a_mo a_mem a_mks a_mr a_cnt a_wd a_one a_two a_mmade a_mrest a_old v_thrown v_mask v_key v_wait v_problem v_code v_length v_cond v_masks v_addr v_mwanted v_wrong v_after v_calls v_oneB v_twoB) H := hP.sub [0] rfl
                  have hDc : va_D A (wX12_meet cI cB a_mo a_mem a_mks a_mr a_cnt a_wd a_one a_two a_mmade a_mrest a_old v_thrown v_mask v_key v_wait v_problem v_code v_length v_cond v_masks v_addr v_mwanted v_wrong v_after v_calls v_oneB v_twoB) := hD.sub [0] (by decide) rfl
                  have hFc := va_free (wc := (wX12_meet cI cB a_mo a_mem a_mks a_mr a_cnt a_wd a_one a_two a_mmade a_mrest a_old v_thrown v_mask v_key v_wait v_problem v_code v_length v_cond v_masks v_addr v_mwanted v_wrong v_after v_calls v_oneB v_twoB)) hD hS hA [0] rfl
                  refine va_callv (va_runV (As := [.int 1]) (rest := []) ⟨hx, hb, hml, hown, hts⟩ (kX12_meet l D cI cB a_mo a_mem a_mks a_mr a_cnt a_wd a_one a_two a_mmade a_mrest a_old H.size v_thrown v_mask v_key v_wait v_problem v_code v_length v_cond v_masks v_addr v_mwanted v_wrong v_after v_calls v_oneB v_twoB 1) (cwV 1 hts (gd_V wd_838 wd_839 wd_840 wd_807 wd_835) rfl rfl rfl hdX12_meet ⟨Nat.le_of_ble_eq_true rfl, Nat.le_of_ble_eq_true rfl⟩) (preV_std (ci := 12) (q0 := 0) hPc hK hDc hNW rfl rfl) rfl rfl hl.1 rfl (lv_room (Nat.le_of_ble_eq_true rfl)) dX12_indexedOnes_292 ⟨Nat.zero_le _, Nat.zero_le _⟩) hS (fun q _ h => hFc q h) hFc (fun u_292 t9 H1 locs ht9 hvm9 hw9 hB9 hz9 hk9 hS => ?_)
                  have eu_292 : u_292 = fX12_meet 1 v_wrong := hw9
                  obtain ⟨hP, hD⟩ := back_std (w1 := (wX12_meet cI cB a_mo a_mem a_mks a_mr a_cnt a_wd a_one a_two a_mmade a_mrest a_old v_thrown v_mask v_key v_wait v_problem v_code v_length v_cond v_masks v_addr v_mwanted u_292 v_after v_calls v_oneB v_twoB)) (w2 := (wX12_indexedOnes cI cB a_mo a_mem a_mks a_mr a_cnt a_wd a_one a_two a_mmade a_mrest a_old v_thrown v_mask v_key v_wait v_problem v_code v_length v_cond v_masks v_addr v_mwanted u_292 v_after v_calls v_oneB v_twoB v_mF v_mkF v_mrF v_wdF v_oneF v_twoF v_mmF)) (wr := [(a_mem, .inl (cI, 8192, .inl v_mF)), (a_mks, .inl (cI, 4, .inl v_mkF)), (a_mr, .inl (cI, 16, .inl v_mrF)), (a_wd, .inl (cI, 6, .inl v_wdF)), (a_one, .inl (cI, 80, .inl v_oneF)), (a_two, .inl (cI, 80, .inl v_twoF)), (a_mmade, .inl (cI, 80, .inl v_mmF))]) hP hD [0] [1, 2, 3, 4, 5, 6, 7] [7, 0, 1, 2, 3, 4, 5, 6] rfl rfl (by decide) (by decide) hk9 hFc hB9 ht9 (by decide) rfl
                  clear hB9 hk9 hz9 hvm9 ht9 hFc hPc hDc
                  generalize H1 = H at hP hS ⊢
                  refine lv_goto (tgt := 325) hx hb dX12_indexedOnes_295 (by decide) ?_
                  have hf9 : (v_cond, v_addr, u_292, v_after, v_oneB, v_twoB, v_mF, v_mrF, v_oneF, v_twoF, v_mmF) = fX12_indexedOnes x0 v_key v_length v_cond v_masks v_addr v_wrong v_after v_oneB v_twoB v_mF v_mkF v_mrF v_wdF v_oneF v_twoF v_mmF := by subst ex_8; simp only [fX12_indexedOnes, ← er_10, ← eu_292]; (try simp only [if_neg c_15_0, if_neg c_15_1, if_neg c_15_2, if_neg c_15_3, if_neg c_15_4, if_neg c_15_5, if_neg c_15_6, if_pos c_15_7])
                  exact W.vret hx hb hr (fun t9 ht9 hW9 => ⟨⟨(v_cond, v_addr, u_292, v_after, v_oneB, v_twoB, v_mF, v_mrF, v_oneF, v_twoF, v_mmF), rfl, hf9, ⟨by rw [ht9]; exact hP, va_K.moved hW9.alike hK, hD⟩⟩, hS.F ht9⟩) hS.2.2 dX12_indexedOnes_325
                · skip
                  by_cases c_15_8 : x0 = 78
                  · skip
                    refine lv_tableIn (tgt := 252) (off := 237) hx hb dX12_indexedOnes_15 (by rw [c_15_8]; decide) (by rw [c_15_8]; decide) (by rw [c_15_8]; rfl) (by decide) ?_
                    refine lv_aload_n hx hb dX12_indexedOnes_252 rfl (lv_at hl 2 rfl) ?_
                    refine lv_iload_n hx hb dX12_indexedOnes_253 rfl (lv_at hl 0 rfl) ?_
                    refine lv_aload_n hx hb dX12_indexedOnes_254 rfl (lv_at hl 2 rfl) ?_
                    refine va_get (D := D) (ci := 12) (v := .ref a_mr) (C := RX12) (T := TX12) (N := 26) hx hb hts in_X12 hown hK hP 0 rfl rfl 3 (by decide) q_1 (fun _ h9 => h9) rfl dX12_indexedOnes_255 ?_
                    refine lv_iload_n hx hb dX12_indexedOnes_258 rfl (lv_at hl 1 rfl) ?_
                    refine va_iald hx hb hK hP 3 0 rfl rfl (by first | with_reducible assumption | exact vin_of (b := 16) (by decide) (by with_reducible assumption) (by with_reducible assumption) | exact vin_of (b := 16) (by decide) (Int32.not_lt.mp (by with_reducible assumption)) (by with_reducible assumption) | exact vin_dn (by decide) (by with_reducible assumption) hI9) dX12_indexedOnes_259 ?_
                    have hPc : va_P D vwCl (wX12_toDecimal cI cB a_mo a_mem a_mks a_mr a_cnt a_wd a_one a_two a_mmade a_mrest a_old v_thrown v_mask v_key v_wait v_problem v_code v_length v_cond v_masks v_addr v_mwanted v_wrong v_after v_calls v_oneB v_twoB v_mF v_mkF v_mmF) H := hP.sub [0, 1, 2, 7] rfl
                    have hDc : va_D A (wX12_toDecimal cI cB a_mo a_mem a_mks a_mr a_cnt a_wd a_one a_two a_mmade a_mrest a_old v_thrown v_mask v_key v_wait v_problem v_code v_length v_cond v_masks v_addr v_mwanted v_wrong v_after v_calls v_oneB v_twoB v_mF v_mkF v_mmF) := hD.sub [0, 1, 2, 7] (by decide) rfl
                    have hFc := va_free (wc := (wX12_toDecimal cI cB a_mo a_mem a_mks a_mr a_cnt a_wd a_one a_two a_mmade a_mrest a_old v_thrown v_mask v_key v_wait v_problem v_code v_length v_cond v_masks v_addr v_mwanted v_wrong v_after v_calls v_oneB v_twoB v_mF v_mkF v_mmF)) hD hS hA [0, 1, 2, 7] rfl
                    refine va_callv (va_runV (As := [.int r_10, .int ((v_mrF (x_8 : Int32).toNatClampNeg))]) (rest := []) ⟨hx, hb, hml, hown, hts⟩ (kX12_toDecimal l D cI cB a_mo a_mem a_mks a_mr a_cnt a_wd a_one a_two a_mmade a_mrest a_old H.size v_thrown v_mask v_key v_wait v_problem v_code v_length v_cond v_masks v_addr v_mwanted v_wrong v_after v_calls v_oneB v_twoB v_mF v_mkF v_mmF r_10 (v_mrF (x_8 : Int32).toNatClampNeg) (by first | with_reducible assumption | decide | (unfold vp_in; decide)) (by first | with_reducible assumption | decide | (unfold vp_in; decide))) (cwV 2 hts (gd_V wd_945 wd_946 wd_947 wd_807 wd_930) rfl rfl rfl hdX12_toDecimal ⟨Nat.le_of_ble_eq_true rfl, Nat.le_of_ble_eq_true rfl⟩) (preV_std (ci := 12) (q0 := 0) hPc hK hDc hNW rfl rfl) rfl rfl hl.1 rfl (lv_room (Nat.le_of_ble_eq_true rfl)) dX12_indexedOnes_260 ⟨Nat.zero_le _, Nat.zero_le _⟩) hS (fun q _ h => hFc q h) hFc (fun u_260 t9 H1 locs ht9 hvm9 hw9 hB9 hz9 hk9 hS => ?_)
                    have eu_260 : u_260 = fX12_toDecimal r_10 (v_mrF (x_8 : Int32).toNatClampNeg) v_key v_wrong v_mF v_mkF v_mmF := hw9
                    obtain ⟨hP, hD⟩ := back_std (w1 := (wX12_toDecimal cI cB a_mo a_mem a_mks a_mr a_cnt a_wd a_one a_two a_mmade a_mrest a_old v_thrown v_mask v_key v_wait v_problem v_code v_length v_cond v_masks v_addr v_mwanted u_260.1 v_after v_calls v_oneB v_twoB u_260.2.1 v_mkF u_260.2.2)) (w2 := (wX12_indexedOnes cI cB a_mo a_mem a_mks a_mr a_cnt a_wd a_one a_two a_mmade a_mrest a_old v_thrown v_mask v_key v_wait v_problem v_code v_length v_cond v_masks v_addr v_mwanted u_260.1 v_after v_calls v_oneB v_twoB u_260.2.1 v_mkF v_mrF v_wdF v_oneF v_twoF u_260.2.2)) (wr := [(a_mr, .inl (cI, 16, .inl v_mrF)), (a_wd, .inl (cI, 6, .inl v_wdF)), (a_one, .inl (cI, 80, .inl v_oneF)), (a_two, .inl (cI, 80, .inl v_twoF))]) hP hD [0, 1, 2, 7] [3, 4, 5, 6] [4, 5, 6, 0, 1, 2, 3, 7] rfl rfl (by decide) (by decide) hk9 hFc hB9 ht9 (by decide) rfl
                    clear hB9 hk9 hz9 hvm9 ht9 hFc hPc hDc
                    generalize H1 = H at hP hS ⊢
                    refine lv_goto (tgt := 325) hx hb dX12_indexedOnes_263 (by decide) ?_
                    have hf9 : (v_cond, v_addr, u_260.1, v_after, v_oneB, v_twoB, u_260.2.1, v_mrF, v_oneF, v_twoF, u_260.2.2) = fX12_indexedOnes x0 v_key v_length v_cond v_masks v_addr v_wrong v_after v_oneB v_twoB v_mF v_mkF v_mrF v_wdF v_oneF v_twoF v_mmF := by subst ex_8; simp only [fX12_indexedOnes, ← er_10, ← eu_260]; (try simp only [if_neg c_15_0, if_neg c_15_1, if_neg c_15_2, if_neg c_15_3, if_neg c_15_4, if_neg c_15_5, if_neg c_15_6, if_neg c_15_7, if_pos c_15_8])
                    exact W.vret hx hb hr (fun t9 ht9 hW9 => ⟨⟨(v_cond, v_addr, u_260.1, v_after, v_oneB, v_twoB, u_260.2.1, v_mrF, v_oneF, v_twoF, u_260.2.2), rfl, hf9, ⟨by rw [ht9]; exact hP, va_K.moved hW9.alike hK, hD⟩⟩, hS.F ht9⟩) hS.2.2 dX12_indexedOnes_325
                  · skip
                    by_cases c_15_9 : x0 = 79
                    · skip
                      refine lv_tableIn (tgt := 266) (off := 251) hx hb dX12_indexedOnes_15 (by rw [c_15_9]; decide) (by rw [c_15_9]; decide) (by rw [c_15_9]; rfl) (by decide) ?_
                      refine lv_aload_n hx hb dX12_indexedOnes_266 rfl (lv_at hl 2 rfl) ?_
                      refine lv_iload_n hx hb dX12_indexedOnes_267 rfl (lv_at hl 1 rfl) ?_
                      refine lv_iload_n hx hb dX12_indexedOnes_268 rfl (lv_at hl 0 rfl) ?_
                      have hPc : va_P D vwCl (wX12_fromDecimal cI cB a_mo a_mem a_mks a_mr a_cnt a_wd a_one a_two a_mmade a_mrest a_old v_thrown v_mask v_key v_wait v_problem v_code v_length v_cond v_masks v_addr v_mwanted v_wrong v_after v_calls v_oneB v_twoB v_mF v_mkF v_mrF v_oneF v_twoF) H := hP.sub [0, 1, 2, 3, 5, 6] rfl
                      have hDc : va_D A (wX12_fromDecimal cI cB a_mo a_mem a_mks a_mr a_cnt a_wd a_one a_two a_mmade a_mrest a_old v_thrown v_mask v_key v_wait v_problem v_code v_length v_cond v_masks v_addr v_mwanted v_wrong v_after v_calls v_oneB v_twoB v_mF v_mkF v_mrF v_oneF v_twoF) := hD.sub [0, 1, 2, 3, 5, 6] (by decide) rfl
                      have hFc := va_free (wc := (wX12_fromDecimal cI cB a_mo a_mem a_mks a_mr a_cnt a_wd a_one a_two a_mmade a_mrest a_old v_thrown v_mask v_key v_wait v_problem v_code v_length v_cond v_masks v_addr v_mwanted v_wrong v_after v_calls v_oneB v_twoB v_mF v_mkF v_mrF v_oneF v_twoF)) hD hS hA [0, 1, 2, 3, 5, 6] rfl
                      refine va_callv (va_runV (As := [.int x_8, .int r_10]) (rest := []) ⟨hx, hb, hml, hown, hts⟩ (kX12_fromDecimal l D cI cB a_mo a_mem a_mks a_mr a_cnt a_wd a_one a_two a_mmade a_mrest a_old H.size v_thrown v_mask v_key v_wait v_problem v_code v_length v_cond v_masks v_addr v_mwanted v_wrong v_after v_calls v_oneB v_twoB v_mF v_mkF v_mrF v_oneF v_twoF x_8 r_10 (by first | with_reducible assumption | decide | (unfold vp_in; decide)) (by first | with_reducible assumption | decide | (unfold vp_in; decide)) (by first | with_reducible assumption | decide | (unfold vp_in; decide))) (cwV 2 hts (gd_V wd_948 wd_949 wd_950 wd_807 wd_934) rfl rfl rfl hdX12_fromDecimal ⟨Nat.le_of_ble_eq_true rfl, Nat.le_of_ble_eq_true rfl⟩) (preV_std (ci := 12) (q0 := 0) hPc hK hDc hNW rfl rfl) rfl rfl hl.1 rfl (lv_room (Nat.le_of_ble_eq_true rfl)) dX12_indexedOnes_269 ⟨Nat.zero_le _, Nat.zero_le _⟩) hS (fun q _ h => hFc q h) hFc (fun u_269 t9 H1 locs ht9 hvm9 hw9 hB9 hz9 hk9 hS => ?_)
                      have eu_269 : u_269 = fX12_fromDecimal x_8 r_10 v_key v_wrong v_oneB v_twoB v_mF v_mkF v_mrF v_oneF v_twoF := hw9
                      obtain ⟨hP, hD⟩ := back_std (w1 := (wX12_fromDecimal cI cB a_mo a_mem a_mks a_mr a_cnt a_wd a_one a_two a_mmade a_mrest a_old v_thrown v_mask v_key v_wait v_problem v_code v_length v_cond v_masks v_addr v_mwanted u_269.1 v_after v_calls u_269.2.1 u_269.2.2.1 v_mF v_mkF u_269.2.2.2.1 u_269.2.2.2.2.1 u_269.2.2.2.2.2)) (w2 := (wX12_indexedOnes cI cB a_mo a_mem a_mks a_mr a_cnt a_wd a_one a_two a_mmade a_mrest a_old v_thrown v_mask v_key v_wait v_problem v_code v_length v_cond v_masks v_addr v_mwanted u_269.1 v_after v_calls u_269.2.1 u_269.2.2.1 v_mF v_mkF u_269.2.2.2.1 v_wdF u_269.2.2.2.2.1 u_269.2.2.2.2.2 v_mmF)) (wr := [(a_wd, .inl (cI, 6, .inl v_wdF)), (a_mmade, .inl (cI, 80, .inl v_mmF))]) hP hD [0, 1, 2, 3, 5, 6] [4, 7] [2, 3, 4, 5, 0, 6, 7, 1] rfl rfl (by decide) (by decide) hk9 hFc hB9 ht9 (by decide) rfl
                      clear hB9 hk9 hz9 hvm9 ht9 hFc hPc hDc
                      generalize H1 = H at hP hS ⊢
                      refine lv_goto (tgt := 325) hx hb dX12_indexedOnes_272 (by decide) ?_
                      have hf9 : (v_cond, v_addr, u_269.1, v_after, u_269.2.1, u_269.2.2.1, v_mF, u_269.2.2.2.1, u_269.2.2.2.2.1, u_269.2.2.2.2.2, v_mmF) = fX12_indexedOnes x0 v_key v_length v_cond v_masks v_addr v_wrong v_after v_oneB v_twoB v_mF v_mkF v_mrF v_wdF v_oneF v_twoF v_mmF := by subst ex_8; simp only [fX12_indexedOnes, ← er_10, ← eu_269]; (try simp only [if_neg c_15_0, if_neg c_15_1, if_neg c_15_2, if_neg c_15_3, if_neg c_15_4, if_neg c_15_5, if_neg c_15_6, if_neg c_15_7, if_neg c_15_8, if_pos c_15_9])
                      exact W.vret hx hb hr (fun t9 ht9 hW9 => ⟨⟨(v_cond, v_addr, u_269.1, v_after, u_269.2.1, u_269.2.2.1, v_mF, u_269.2.2.2.1, u_269.2.2.2.2.1, u_269.2.2.2.2.2, v_mmF), rfl, hf9, ⟨by rw [ht9]; exact hP, va_K.moved hW9.alike hK, hD⟩⟩, hS.F ht9⟩) hS.2.2 dX12_indexedOnes_325
                    · skip
                      by_cases c_15_10 : x0 = 80
                      · skip
                        refine lv_tableIn (tgt := 275) (off := 260) hx hb dX12_indexedOnes_15 (by rw [c_15_10]; decide) (by rw [c_15_10]; decide) (by rw [c_15_10]; rfl) (by decide) ?_
                        refine lv_aload_n hx hb dX12_indexedOnes_275 rfl (lv_at hl 2 rfl) ?_
                        refine lv_iload_n hx hb dX12_indexedOnes_276 rfl (lv_at hl 0 rfl) ?_
                        refine lv_aload_n hx hb dX12_indexedOnes_277 rfl (lv_at hl 2 rfl) ?_
                        refine va_get (D := D) (ci := 12) (v := .ref a_mr) (C := RX12) (T := TX12) (N := 26) hx hb hts in_X12 hown hK hP 0 rfl rfl 3 (by decide) q_1 (fun _ h9 => h9) rfl dX12_indexedOnes_278 ?_
                        refine lv_iload_n hx hb dX12_indexedOnes_281 rfl (lv_at hl 1 rfl) ?_
                        refine va_iald hx hb hK hP 3 0 rfl rfl (by first | with_reducible assumption | exact vin_of (b := 16) (by decide) (by with_reducible assumption) (by with_reducible assumption) | exact vin_of (b := 16) (by decide) (Int32.not_lt.mp (by with_reducible assumption)) (by with_reducible assumption) | exact vin_dn (by decide) (by with_reducible assumption) hI9) dX12_indexedOnes_282 ?_
                        refine lv_iconst (v := 4) hx hb dX12_indexedOnes_283 (by decide) ?_
                        have hPc : va_P D vwCl (wX12_toMemory cI cB a_mo a_mem a_mks a_mr a_cnt a_wd a_one a_two a_mmade a_mrest a_old v_thrown v_mask v_key v_wait v_problem v_code v_length v_cond v_masks v_addr v_mwanted v_wrong v_after v_calls v_oneB v_twoB v_mF v_mkF) H := hP.sub [0, 1, 2] rfl
                        have hDc : va_D A (wX12_toMemory cI cB a_mo a_mem a_mks a_mr a_cnt a_wd a_one a_two a_mmade a_mrest a_old v_thrown v_mask v_key v_wait v_problem v_code v_length v_cond v_masks v_addr v_mwanted v_wrong v_after v_calls v_oneB v_twoB v_mF v_mkF) := hD.sub [0, 1, 2] (by decide) rfl
                        have hFc := va_free (wc := (wX12_toMemory cI cB a_mo a_mem a_mks a_mr a_cnt a_wd a_one a_two a_mmade a_mrest a_old v_thrown v_mask v_key v_wait v_problem v_code v_length v_cond v_masks v_addr v_mwanted v_wrong v_after v_calls v_oneB v_twoB v_mF v_mkF)) hD hS hA [0, 1, 2] rfl
                        refine va_callv (va_runV (As := [.int r_10, .int ((v_mrF (x_8 : Int32).toNatClampNeg)), .int 4]) (rest := []) ⟨hx, hb, hml, hown, hts⟩ (kX12_toMemory l D cI cB a_mo a_mem a_mks a_mr a_cnt a_wd a_one a_two a_mmade a_mrest a_old H.size v_thrown v_mask v_key v_wait v_problem v_code v_length v_cond v_masks v_addr v_mwanted v_wrong v_after v_calls v_oneB v_twoB v_mF v_mkF r_10 (v_mrF (x_8 : Int32).toNatClampNeg) 4 (by first | with_reducible assumption | decide | (unfold vp_in; decide)) (by first | with_reducible assumption | decide | (unfold vp_in; decide)) (by first | with_reducible assumption | decide | (unfold vp_in; decide))) (cwV 3 hts (gd_V wd_942 wd_943 wd_944 wd_807 wd_927) rfl rfl rfl hdX12_toMemory ⟨Nat.le_of_ble_eq_true rfl, Nat.le_of_ble_eq_true rfl⟩) (preV_std (ci := 12) (q0 := 0) hPc hK hDc hNW rfl rfl) rfl rfl hl.1 rfl (lv_room (Nat.le_of_ble_eq_true rfl)) dX12_indexedOnes_284 ⟨Nat.zero_le _, Nat.zero_le _⟩) hS (fun q _ h => hFc q h) hFc (fun u_284 t9 H1 locs ht9 hvm9 hw9 hB9 hz9 hk9 hS => ?_)
                        have eu_284 : u_284 = fX12_toMemory r_10 (v_mrF (x_8 : Int32).toNatClampNeg) 4 v_key v_wrong v_mF v_mkF := hw9
                        obtain ⟨hP, hD⟩ := back_std (w1 := (wX12_toMemory cI cB a_mo a_mem a_mks a_mr a_cnt a_wd a_one a_two a_mmade a_mrest a_old v_thrown v_mask v_key v_wait v_problem v_code v_length v_cond v_masks v_addr v_mwanted u_284.1 v_after v_calls v_oneB v_twoB u_284.2 v_mkF)) (w2 := (wX12_indexedOnes cI cB a_mo a_mem a_mks a_mr a_cnt a_wd a_one a_two a_mmade a_mrest a_old v_thrown v_mask v_key v_wait v_problem v_code v_length v_cond v_masks v_addr v_mwanted u_284.1 v_after v_calls v_oneB v_twoB u_284.2 v_mkF v_mrF v_wdF v_oneF v_twoF v_mmF)) (wr := [(a_mr, .inl (cI, 16, .inl v_mrF)), (a_wd, .inl (cI, 6, .inl v_wdF)), (a_one, .inl (cI, 80, .inl v_oneF)), (a_two, .inl (cI, 80, .inl v_twoF)), (a_mmade, .inl (cI, 80, .inl v_mmF))]) hP hD [0, 1, 2] [3, 4, 5, 6, 7] [5, 6, 7, 0, 1, 2, 3, 4] rfl rfl (by decide) (by decide) hk9 hFc hB9 ht9 (by decide) rfl
                        clear hB9 hk9 hz9 hvm9 ht9 hFc hPc hDc
                        generalize H1 = H at hP hS ⊢
                        refine lv_goto (tgt := 325) hx hb dX12_indexedOnes_287 (by decide) ?_
                        have hf9 : (v_cond, v_addr, u_284.1, v_after, v_oneB, v_twoB, u_284.2, v_mrF, v_oneF, v_twoF, v_mmF) = fX12_indexedOnes x0 v_key v_length v_cond v_masks v_addr v_wrong v_after v_oneB v_twoB v_mF v_mkF v_mrF v_wdF v_oneF v_twoF v_mmF := by subst ex_8; simp only [fX12_indexedOnes, ← er_10, ← eu_284]; (try simp only [if_neg c_15_0, if_neg c_15_1, if_neg c_15_2, if_neg c_15_3, if_neg c_15_4, if_neg c_15_5, if_neg c_15_6, if_neg c_15_7, if_neg c_15_8, if_neg c_15_9, if_pos c_15_10])
                        exact W.vret hx hb hr (fun t9 ht9 hW9 => ⟨⟨(v_cond, v_addr, u_284.1, v_after, v_oneB, v_twoB, u_284.2, v_mrF, v_oneF, v_twoF, v_mmF), rfl, hf9, ⟨by rw [ht9]; exact hP, va_K.moved hW9.alike hK, hD⟩⟩, hS.F ht9⟩) hS.2.2 dX12_indexedOnes_325
                      · skip
                        refine sw_def (tgt := 298) hx hb [64, 65, 66, 67, 69, 70, 71, 77, 78, 79, 80] dX12_indexedOnes_15 (by decide) (by decide) ?_ (by decide) ?_
                        · intro v hv he
                          simp only [List.mem_cons, List.not_mem_nil, or_false] at hv
                          have hx9 : x0 = Int32.ofInt v := by rw [← he, Int32.ofInt_toInt]
                          revert hx9
                          rcases hv with rfl | rfl | rfl | rfl | rfl | rfl | rfl | rfl | rfl | rfl | rfl <;> intro hx9 <;> first | exact c_15_0 (by rw [hx9]; decide) | exact c_15_1 (by rw [hx9]; decide) | exact c_15_2 (by rw [hx9]; decide) | exact c_15_3 (by rw [hx9]; decide) | exact c_15_4 (by rw [hx9]; decide) | exact c_15_5 (by rw [hx9]; decide) | exact c_15_6 (by rw [hx9]; decide) | exact c_15_7 (by rw [hx9]; decide) | exact c_15_8 (by rw [hx9]; decide) | exact c_15_9 (by rw [hx9]; decide) | exact c_15_10 (by rw [hx9]; decide)
                        · skip
                          refine lv_iload_n hx hb dX12_indexedOnes_298 rfl (lv_at hl 3 rfl) ?_
                          refine lv_bipush (v := 80) hx hb dX12_indexedOnes_299 (by decide) ?_
                          refine lv_icmp_le (tgt := 318) hx hb dX12_indexedOnes_301 (by decide) (fun c_301 => ?_) (fun c_301 => ?_)
                          · skip
                            refine lv_aload_n hx hb dX12_indexedOnes_318 rfl (lv_at hl 2 rfl) ?_
                            refine lv_iload_n hx hb dX12_indexedOnes_319 rfl (lv_at hl 3 rfl) ?_
                            refine lv_iload_n hx hb dX12_indexedOnes_320 rfl (lv_at hl 1 rfl) ?_
                            refine lv_iload_n hx hb dX12_indexedOnes_321 rfl (lv_at hl 0 rfl) ?_
                            have hPc : va_P D vwCl (wX12_withMemory cI cB a_mo a_mem a_mks a_mr a_cnt a_wd a_one a_two a_mmade a_mrest a_old v_thrown v_mask v_key v_wait v_problem v_code v_length v_cond v_masks v_addr v_mwanted v_wrong v_after v_calls v_oneB v_twoB v_mF v_mkF v_mrF) H := hP.sub [0, 1, 2, 3] rfl
                            have hDc : va_D A (wX12_withMemory cI cB a_mo a_mem a_mks a_mr a_cnt a_wd a_one a_two a_mmade a_mrest a_old v_thrown v_mask v_key v_wait v_problem v_code v_length v_cond v_masks v_addr v_mwanted v_wrong v_after v_calls v_oneB v_twoB v_mF v_mkF v_mrF) := hD.sub [0, 1, 2, 3] (by decide) rfl
                            have hFc := va_free (wc := (wX12_withMemory cI cB a_mo a_mem a_mks a_mr a_cnt a_wd a_one a_two a_mmade a_mrest a_old v_thrown v_mask v_key v_wait v_problem v_code v_length v_cond v_masks v_addr v_mwanted v_wrong v_after v_calls v_oneB v_twoB v_mF v_mkF v_mrF)) hD hS hA [0, 1, 2, 3] rfl
                            refine va_callv (va_runV (As := [.int x0, .int x_8, .int r_10]) (rest := []) ⟨hx, hb, hml, hown, hts⟩ (kX12_withMemory l D cI cB a_mo a_mem a_mks a_mr a_cnt a_wd a_one a_two a_mmade a_mrest a_old H.size v_thrown v_mask v_key v_wait v_problem v_code v_length v_cond v_masks v_addr v_mwanted v_wrong v_after v_calls v_oneB v_twoB v_mF v_mkF v_mrF x0 x_8 r_10 (by first | with_reducible assumption | decide | (unfold vp_in; decide)) (by first | with_reducible assumption | decide | (unfold vp_in; decide)) (by first | with_reducible assumption | decide | (unfold vp_in; decide))) (cwV 3 hts (gd_V wd_951 wd_952 wd_953 wd_807 wd_938) rfl rfl rfl hdX12_withMemory ⟨Nat.le_of_ble_eq_true rfl, Nat.le_of_ble_eq_true rfl⟩) (preV_std (ci := 12) (q0 := 0) hPc hK hDc hNW rfl rfl) rfl rfl hl.1 rfl (lv_room (Nat.le_of_ble_eq_true rfl)) dX12_indexedOnes_322 ⟨Nat.zero_le _, Nat.zero_le _⟩) hS (fun q _ h => hFc q h) hFc (fun u_322 t9 H1 locs ht9 hvm9 hw9 hB9 hz9 hk9 hS => ?_)
                            have eu_322 : u_322 = fX12_withMemory x0 x_8 r_10 v_key v_cond v_masks v_wrong v_after v_mF v_mkF v_mrF := hw9
                            obtain ⟨hP, hD⟩ := back_std (w1 := (wX12_withMemory cI cB a_mo a_mem a_mks a_mr a_cnt a_wd a_one a_two a_mmade a_mrest a_old v_thrown v_mask v_key v_wait v_problem v_code v_length u_322.1 v_masks v_addr v_mwanted u_322.2.1 u_322.2.2.1 v_calls v_oneB v_twoB v_mF v_mkF u_322.2.2.2)) (w2 := (wX12_indexedOnes cI cB a_mo a_mem a_mks a_mr a_cnt a_wd a_one a_two a_mmade a_mrest a_old v_thrown v_mask v_key v_wait v_problem v_code v_length u_322.1 v_masks v_addr v_mwanted u_322.2.1 u_322.2.2.1 v_calls v_oneB v_twoB v_mF v_mkF u_322.2.2.2 v_wdF v_oneF v_twoF v_mmF)) (wr := [(a_wd, .inl (cI, 6, .inl v_wdF)), (a_one, .inl (cI, 80, .inl v_oneF)), (a_two, .inl (cI, 80, .inl v_twoF)), (a_mmade, .inl (cI, 80, .inl v_mmF))]) hP hD [0, 1, 2, 3] [4, 5, 6, 7] [4, 5, 6, 7, 0, 1, 2, 3] rfl rfl (by decide) (by decide) hk9 hFc hB9 ht9 (by decide) rfl
                            clear hB9 hk9 hz9 hvm9 ht9 hFc hPc hDc
                            generalize H1 = H at hP hS ⊢
                            have hf9 : (u_322.1, v_addr, u_322.2.1, u_322.2.2.1, v_oneB, v_twoB, v_mF, u_322.2.2.2, v_oneF, v_twoF, v_mmF) = fX12_indexedOnes x0 v_key v_length v_cond v_masks v_addr v_wrong v_after v_oneB v_twoB v_mF v_mkF v_mrF v_wdF v_oneF v_twoF v_mmF := by subst ex_8; simp only [fX12_indexedOnes, ← er_10, ← eu_322]; (try simp only [if_neg c_15_0, if_neg c_15_1, if_neg c_15_2, if_neg c_15_3, if_neg c_15_4, if_neg c_15_5, if_neg c_15_6, if_neg c_15_7, if_neg c_15_8, if_neg c_15_9, if_neg c_15_10, if_pos c_301])
                            exact W.vret hx hb hr (fun t9 ht9 hW9 => ⟨⟨(u_322.1, v_addr, u_322.2.1, u_322.2.2.1, v_oneB, v_twoB, v_mF, u_322.2.2.2, v_oneF, v_twoF, v_mmF), rfl, hf9, ⟨by rw [ht9]; exact hP, va_K.moved hW9.alike hK, hD⟩⟩, hS.F ht9⟩) hS.2.2 dX12_indexedOnes_325
                          · skip
                            refine lv_iload_n hx hb dX12_indexedOnes_304 rfl (lv_at hl 3 rfl) ?_
                            refine lv_bipush (v := 84) hx hb dX12_indexedOnes_305 (by decide) ?_
                            refine lv_icmp_ge (tgt := 318) hx hb dX12_indexedOnes_307 (by decide) (fun c_307 => ?_) (fun c_307 => ?_)
                            · skip
                              refine lv_aload_n hx hb dX12_indexedOnes_318 rfl (lv_at hl 2 rfl) ?_
                              refine lv_iload_n hx hb dX12_indexedOnes_319 rfl (lv_at hl 3 rfl) ?_
                              refine lv_iload_n hx hb dX12_indexedOnes_320 rfl (lv_at hl 1 rfl) ?_
                              refine lv_iload_n hx hb dX12_indexedOnes_321 rfl (lv_at hl 0 rfl) ?_
                              have hPc : va_P D vwCl (wX12_withMemory cI cB a_mo a_mem a_mks a_mr a_cnt a_wd a_one a_two a_mmade a_mrest a_old v_thrown v_mask v_key v_wait v_problem v_code v_length v_cond v_masks v_addr v_mwanted v_wrong v_after v_calls v_oneB v_twoB v_mF v_mkF v_mrF) H := hP.sub [0, 1, 2, 3] rfl
                              have hDc : va_D A (wX12_withMemory cI cB a_mo a_mem a_mks a_mr a_cnt a_wd a_one a_two a_mmade a_mrest a_old v_thrown v_mask v_key v_wait v_problem v_code v_length v_cond v_masks v_addr v_mwanted v_wrong v_after v_calls v_oneB v_twoB v_mF v_mkF v_mrF) := hD.sub [0, 1, 2, 3] (by decide) rfl
                              have hFc := va_free (wc := (wX12_withMemory cI cB a_mo a_mem a_mks a_mr a_cnt a_wd a_one a_two a_mmade a_mrest a_old v_thrown v_mask v_key v_wait v_problem v_code v_length v_cond v_masks v_addr v_mwanted v_wrong v_after v_calls v_oneB v_twoB v_mF v_mkF v_mrF)) hD hS hA [0, 1, 2, 3] rfl
                              refine va_callv (va_runV (As := [.int x0, .int x_8, .int r_10]) (rest := []) ⟨hx, hb, hml, hown, hts⟩ (kX12_withMemory l D cI cB a_mo a_mem a_mks a_mr a_cnt a_wd a_one a_two a_mmade a_mrest a_old H.size v_thrown v_mask v_key v_wait v_problem v_code v_length v_cond v_masks v_addr v_mwanted v_wrong v_after v_calls v_oneB v_twoB v_mF v_mkF v_mrF x0 x_8 r_10 (by first | with_reducible assumption | decide | (unfold vp_in; decide)) (by first | with_reducible assumption | decide | (unfold vp_in; decide)) (by first | with_reducible assumption | decide | (unfold vp_in; decide))) (cwV 3 hts (gd_V wd_951 wd_952 wd_953 wd_807 wd_938) rfl rfl rfl hdX12_withMemory ⟨Nat.le_of_ble_eq_true rfl, Nat.le_of_ble_eq_true rfl⟩) (preV_std (ci := 12) (q0 := 0) hPc hK hDc hNW rfl rfl) rfl rfl hl.1 rfl (lv_room (Nat.le_of_ble_eq_true rfl)) dX12_indexedOnes_322 ⟨Nat.zero_le _, Nat.zero_le _⟩) hS (fun q _ h => hFc q h) hFc (fun u_322 t9 H1 locs ht9 hvm9 hw9 hB9 hz9 hk9 hS => ?_)
                              have eu_322 : u_322 = fX12_withMemory x0 x_8 r_10 v_key v_cond v_masks v_wrong v_after v_mF v_mkF v_mrF := hw9
                              obtain ⟨hP, hD⟩ := back_std (w1 := (wX12_withMemory cI cB a_mo a_mem a_mks a_mr a_cnt a_wd a_one a_two a_mmade a_mrest a_old v_thrown v_mask v_key v_wait v_problem v_code v_length u_322.1 v_masks v_addr v_mwanted u_322.2.1 u_322.2.2.1 v_calls v_oneB v_twoB v_mF v_mkF u_322.2.2.2)) (w2 := (wX12_indexedOnes cI cB a_mo a_mem a_mks a_mr a_cnt a_wd a_one a_two a_mmade a_mrest a_old v_thrown v_mask v_key v_wait v_problem v_code v_length u_322.1 v_masks v_addr v_mwanted u_322.2.1 u_322.2.2.1 v_calls v_oneB v_twoB v_mF v_mkF u_322.2.2.2 v_wdF v_oneF v_twoF v_mmF)) (wr := [(a_wd, .inl (cI, 6, .inl v_wdF)), (a_one, .inl (cI, 80, .inl v_oneF)), (a_two, .inl (cI, 80, .inl v_twoF)), (a_mmade, .inl (cI, 80, .inl v_mmF))]) hP hD [0, 1, 2, 3] [4, 5, 6, 7] [4, 5, 6, 7, 0, 1, 2, 3] rfl rfl (by decide) (by decide) hk9 hFc hB9 ht9 (by decide) rfl
                              clear hB9 hk9 hz9 hvm9 ht9 hFc hPc hDc
                              generalize H1 = H at hP hS ⊢
                              have hf9 : (u_322.1, v_addr, u_322.2.1, u_322.2.2.1, v_oneB, v_twoB, v_mF, u_322.2.2.2, v_oneF, v_twoF, v_mmF) = fX12_indexedOnes x0 v_key v_length v_cond v_masks v_addr v_wrong v_after v_oneB v_twoB v_mF v_mkF v_mrF v_wdF v_oneF v_twoF v_mmF := by subst ex_8; simp only [fX12_indexedOnes, ← er_10, ← eu_322]; (try simp only [if_neg c_15_0, if_neg c_15_1, if_neg c_15_2, if_neg c_15_3, if_neg c_15_4, if_neg c_15_5, if_neg c_15_6, if_neg c_15_7, if_neg c_15_8, if_neg c_15_9, if_neg c_15_10, if_neg c_301, if_pos c_307])
                              exact W.vret hx hb hr (fun t9 ht9 hW9 => ⟨⟨(u_322.1, v_addr, u_322.2.1, u_322.2.2.1, v_oneB, v_twoB, v_mF, u_322.2.2.2, v_oneF, v_twoF, v_mmF), rfl, hf9, ⟨by rw [ht9]; exact hP, va_K.moved hW9.alike hK, hD⟩⟩, hS.F ht9⟩) hS.2.2 dX12_indexedOnes_325
                            · skip
                              refine lv_aload_n hx hb dX12_indexedOnes_310 rfl (lv_at hl 2 rfl) ?_
                              refine lv_iconst (v := 1) hx hb dX12_indexedOnes_311 (by decide) ?_
                              have hPc : va_P D vwCl (wX12_meet cI cB a_mo a_mem a_mks a_mr a_cnt a_wd a_one a_two a_mmade a_mrest a_old v_thrown v_mask v_key v_wait v_problem v_code v_length v_cond v_masks v_addr v_mwanted v_wrong v_after v_calls v_oneB v_twoB) H := hP.sub [0] rfl
                              have hDc : va_D A (wX12_meet cI cB a_mo a_mem a_mks a_mr a_cnt a_wd a_one a_two a_mmade a_mrest a_old v_thrown v_mask v_key v_wait v_problem v_code v_length v_cond v_masks v_addr v_mwanted v_wrong v_after v_calls v_oneB v_twoB) := hD.sub [0] (by decide) rfl
                              have hFc := va_free (wc := (wX12_meet cI cB a_mo a_mem a_mks a_mr a_cnt a_wd a_one a_two a_mmade a_mrest a_old v_thrown v_mask v_key v_wait v_problem v_code v_length v_cond v_masks v_addr v_mwanted v_wrong v_after v_calls v_oneB v_twoB)) hD hS hA [0] rfl
                              refine va_callv (va_runV (As := [.int 1]) (rest := []) ⟨hx, hb, hml, hown, hts⟩ (kX12_meet l D cI cB a_mo a_mem a_mks a_mr a_cnt a_wd a_one a_two a_mmade a_mrest a_old H.size v_thrown v_mask v_key v_wait v_problem v_code v_length v_cond v_masks v_addr v_mwanted v_wrong v_after v_calls v_oneB v_twoB 1) (cwV 1 hts (gd_V wd_838 wd_839 wd_840 wd_807 wd_835) rfl rfl rfl hdX12_meet ⟨Nat.le_of_ble_eq_true rfl, Nat.le_of_ble_eq_true rfl⟩) (preV_std (ci := 12) (q0 := 0) hPc hK hDc hNW rfl rfl) rfl rfl hl.1 rfl (lv_room (Nat.le_of_ble_eq_true rfl)) dX12_indexedOnes_312 ⟨Nat.zero_le _, Nat.zero_le _⟩) hS (fun q _ h => hFc q h) hFc (fun u_312 t9 H1 locs ht9 hvm9 hw9 hB9 hz9 hk9 hS => ?_)
                              have eu_312 : u_312 = fX12_meet 1 v_wrong := hw9
                              obtain ⟨hP, hD⟩ := back_std (w1 := (wX12_meet cI cB a_mo a_mem a_mks a_mr a_cnt a_wd a_one a_two a_mmade a_mrest a_old v_thrown v_mask v_key v_wait v_problem v_code v_length v_cond v_masks v_addr v_mwanted u_312 v_after v_calls v_oneB v_twoB)) (w2 := (wX12_indexedOnes cI cB a_mo a_mem a_mks a_mr a_cnt a_wd a_one a_two a_mmade a_mrest a_old v_thrown v_mask v_key v_wait v_problem v_code v_length v_cond v_masks v_addr v_mwanted u_312 v_after v_calls v_oneB v_twoB v_mF v_mkF v_mrF v_wdF v_oneF v_twoF v_mmF)) (wr := [(a_mem, .inl (cI, 8192, .inl v_mF)), (a_mks, .inl (cI, 4, .inl v_mkF)), (a_mr, .inl (cI, 16, .inl v_mrF)), (a_wd, .inl (cI, 6, .inl v_wdF)), (a_one, .inl (cI, 80, .inl v_oneF)), (a_two, .inl (cI, 80, .inl v_twoF)), (a_mmade, .inl (cI, 80, .inl v_mmF))]) hP hD [0] [1, 2, 3, 4, 5, 6, 7] [7, 0, 1, 2, 3, 4, 5, 6] rfl rfl (by decide) (by decide) hk9 hFc hB9 ht9 (by decide) rfl
                              clear hB9 hk9 hz9 hvm9 ht9 hFc hPc hDc
                              generalize H1 = H at hP hS ⊢
                              refine lv_goto (tgt := 325) hx hb dX12_indexedOnes_315 (by decide) ?_
                              have hf9 : (v_cond, v_addr, u_312, v_after, v_oneB, v_twoB, v_mF, v_mrF, v_oneF, v_twoF, v_mmF) = fX12_indexedOnes x0 v_key v_length v_cond v_masks v_addr v_wrong v_after v_oneB v_twoB v_mF v_mkF v_mrF v_wdF v_oneF v_twoF v_mmF := by subst ex_8; simp only [fX12_indexedOnes, ← er_10, ← eu_312]; (try simp only [if_neg c_15_0, if_neg c_15_1, if_neg c_15_2, if_neg c_15_3, if_neg c_15_4, if_neg c_15_5, if_neg c_15_6, if_neg c_15_7, if_neg c_15_8, if_neg c_15_9, if_neg c_15_10, if_neg c_301, if_neg c_307])
                              exact W.vret hx hb hr (fun t9 ht9 hW9 => ⟨⟨(v_cond, v_addr, u_312, v_after, v_oneB, v_twoB, v_mF, v_mrF, v_oneF, v_twoF, v_mmF), rfl, hf9, ⟨by rw [ht9]; exact hP, va_K.moved hW9.alike hK, hD⟩⟩, hS.F ht9⟩) hS.2.2 dX12_indexedOnes_325
theorem hdX12_indexedOnes : yX12_indexedOnes.cls = RX12 ∧ yX12_indexedOnes.cls ≠ "java/lang/invoke/MethodHandle" ∧ yX12_indexedOnes.cls ≠ "java/lang/invoke/VarHandle" ∧ (parseMethodDescriptor yX12_indexedOnes.desc).map (fun d => d.parameters.length) = some 1 := by decide +kernel
noncomputable def LX12_shift_142 (x2 : Int32) (m_12 : Int32) (m_58 : Int32) (m_71 : Int32) (x_117 : Int64) (m_134 : Int32) : Nat → (Int64 × Int32 × Int32) → (Int64 × Int32 × Int32)
  | 0, w_142 => w_142
  | n9 + 1, w_142 =>
    if x2 ≤ w_142.2.2 then ((w_142.1, w_142.2.1, w_142.2.2)) else (let m_275 : (Int64 × Int32) := (if m_58 = 0 then (let m_272 : Int64 := (if m_71 = 0 then (0) else (if m_134 = 0 then (0) else (x_117))); let x_273 := (((w_142.1 : Int64).toUInt64 >>> ((1 : Int32).toInt64.toUInt64 &&& Int64.toUInt64 63)).toInt64 ||| m_272); (x_273, w_142.2.1)) else (if m_71 = 0 then (let m_247 : Int64 := (if m_12 = 0 then (((w_142.1 <<< ((1 : Int32).toInt64 &&& 63)) &&& 4294967295)) else ((w_142.1 <<< ((1 : Int32).toInt64 &&& 63)))); (m_247, w_142.2.1)) else (let m_175 : Int32 := (if (lg_cmp ((w_142.1 &&& ((x_117 : Int64).toUInt64 >>> ((1 : Int32).toInt64.toUInt64 &&& Int64.toUInt64 63)).toInt64)) (0)) = 0 then (0) else (1)); let m_194 : Int32 := (if w_142.2.1 = 0 then (if m_175 = m_134 then (0) else (1)) else (1)); let m_216 : Int64 := (if m_134 = 0 then (0) else (x_117)); let x_217 := (((w_142.1 <<< ((1 : Int32).toInt64 &&& 63)) &&& (x_117 - 1)) ||| m_216); (x_217, m_194)))); let x_275 := w_142.2.2 + 1; LX12_shift_142 x2 m_12 m_58 m_71 x_117 m_134 n9 (m_275.1, m_275.2, x_275))
noncomputable def fX12_shift (x0 : Int32) (x1 : Int32) (x2 : Int32) (v_cond : Int32) (v_masks : Int32) (v_wrong : Int32) (v_after : Int32) (v_mrF : (Nat → Int32)) : (Int32 × Int32 × Int32 × (Nat → Int32)) :=
  let m_12 : Int32 := (if x0 < 140 then (0) else (1))
  let m_32 : Int32 := (if m_12 = 0 then (v_wrong) else (if (x1 - x1 / 2 * 2) = 1 then (let u_29 := fX12_meet 6 v_wrong; u_29) else (v_wrong)))
  if m_32 ≤ 0 then (let x_43 := (x0 &&& 3); let m_58 : Int32 := (if (x_43 &&& 1) = 1 then (1) else (0)); let m_71 : Int32 := (if x_43 ≤ 1 then (0) else (1)); let m_85 : Int32 := (if m_12 = 0 then (32) else (64)); let m_109 : Int64 := (if m_12 = 0 then (let r_106 := fX12_plain (v_mrF (x1 : Int32).toNatClampNeg); r_106) else (let r_94 := fX12_pair x1 v_mrF; r_94)); let x_117 := (1 <<< (((m_85 - 1) : Int32).toInt64 &&& 63)); let m_134 : Int32 := (if (lg_cmp ((m_109 &&& x_117)) (0)) = 0 then (0) else (1)); let g_142 := LX12_shift_142 x2 m_12 m_58 m_71 x_117 m_134 (msU x2 0 + 1) (m_109, 0, 0); let m_321 : (Nat → Int32) := (if m_12 = 0 then (let f_320 := upd v_mrF (x1 : Int32).toNatClampNeg ((g_142.1 : Int64).toInt32); f_320) else (let f_297 := upd v_mrF (x1 : Int32).toNatClampNeg (((g_142.1 >>> ((32 : Int32).toInt64 &&& 63)) : Int64).toInt32); let f_308 := upd f_297 ((x1 + 1) : Int32).toNatClampNeg ((g_142.1 : Int64).toInt32); f_308)); if m_71 = 0 then ((v_cond, m_32, v_after, m_321)) else (let m_340 : Int64 := (if m_12 = 0 then (((g_142.1 : Int64).toInt32 : Int32).toInt64) else (g_142.1)); let m_375 : Int32 := (if g_142.2.1 = 0 then (if (lg_cmp (m_340) (0)) = 0 then (0) else (if 0 ≤ (lg_cmp (m_340) (0)) then (2) else (1))) else (3)); if g_142.2.1 = 0 then ((m_375, m_32, v_after, m_321)) else (if (v_masks &&& 8) = 0 then ((m_375, m_32, v_after, m_321)) else ((m_375, m_32, 8, m_321))))) else ((v_cond, m_32, v_after, v_mrF))
abbrev wX12_shift (cI cB : ClassId) (a_mo a_mem a_mks a_mr a_cnt a_wd a_one a_two a_mmade a_mrest a_old : Nat) (v_thrown : Int32) (v_mask : Int32) (v_key : Int32) (v_wait : Int32) (v_problem : Int32) (v_code : Int32) (v_length : Int32) (v_cond : Int32) (v_masks : Int32) (v_addr : Int32) (v_mwanted : Int32) (v_wrong : Int32) (v_after : Int32) (v_calls : Int32) (v_oneB : Int32) (v_twoB : Int32) (v_mrF : (Nat → Int32)) : va_W := [(a_mo, .inr (12, [.int v_thrown, .ref a_mem, .ref a_mks, .ref a_mr, .int v_mask, .int v_key, .int v_wait, .int v_problem, .int v_code, .int v_length, .int v_cond, .int v_masks, .int v_addr, .int v_mwanted, .ref a_cnt, .ref a_wd, .int v_wrong, .int v_after, .int v_calls, .ref a_one, .int v_oneB, .ref a_two, .int v_twoB, .ref a_mmade, .ref a_mrest, .ref a_old])), (a_mr, .inl (cI, 16, .inl v_mrF))]
abbrev rmX12_shift : Room := { frames := 2, cells := 0, slots := 0, locals := 41 }
abbrev qX12_shift (D : va_G) (cI cB : ClassId) (a_mo a_mem a_mks a_mr a_cnt a_wd a_one a_two a_mmade a_mrest a_old : Nat) (v_thrown : Int32) (v_mask : Int32) (v_key : Int32) (v_wait : Int32) (v_problem : Int32) (v_code : Int32) (v_length : Int32) (v_cond : Int32) (v_masks : Int32) (v_addr : Int32) (v_mwanted : Int32) (v_wrong : Int32) (v_after : Int32) (v_calls : Int32) (v_oneB : Int32) (v_twoB : Int32) (v_mrF : (Nat → Int32)) (x0 : Int32) (x1 : Int32) (x2 : Int32) : (Nat → Prop) → Array Value → State → Outcome → State → Prop := fun A9 => va_Qv (fun (u9 : (Int32 × Int32 × Int32 × (Nat → Int32))) => u9 = fX12_shift x0 x1 x2 v_cond v_masks v_wrong v_after v_mrF) (fun u9 t9 => atW D (TYS cI cB) A9 (wX12_shift cI cB a_mo a_mem a_mks a_mr a_cnt a_wd a_one a_two a_mmade a_mrest a_old v_thrown v_mask v_key v_wait v_problem v_code v_length u9.1 v_masks v_addr v_mwanted u9.2.1 u9.2.2.1 v_calls v_oneB v_twoB u9.2.2.2) t9) A9
set_option maxHeartbeats 4000000 in
set_option maxRecDepth 100000 in
theorem kX12_shift (l : Launch) (D : va_G) (cI cB : ClassId) (a_mo a_mem a_mks a_mr a_cnt a_wd a_one a_two a_mmade a_mrest a_old : Nat) (sz : Nat) (v_thrown : Int32) (v_mask : Int32) (v_key : Int32) (v_wait : Int32) (v_problem : Int32) (v_code : Int32) (v_length : Int32) (v_cond : Int32) (v_masks : Int32) (v_addr : Int32) (v_mwanted : Int32) (v_wrong : Int32) (v_after : Int32) (v_calls : Int32) (v_oneB : Int32) (v_twoB : Int32) (v_mrF : (Nat → Int32)) (x0 : Int32) (x1 : Int32) (x2 : Int32) (hk : vp_in x1 16) (hw : 0 ≤ v_wrong) : MetW l yX12_shift (WK yX12_shift cX12_shift 17 none) rmX12_shift D (TYS cI cB) (wX12_shift cI cB a_mo a_mem a_mks a_mr a_cnt a_wd a_one a_two a_mmade a_mrest a_old v_thrown v_mask v_key v_wait v_problem v_code v_length v_cond v_masks v_addr v_mwanted v_wrong v_after v_calls v_oneB v_twoB v_mrF) sz [.ref a_mo, .int x0, .int x1, .int x2] (qX12_shift D cI cB a_mo a_mem a_mks a_mr a_cnt a_wd a_one a_two a_mmade a_mrest a_old v_thrown v_mask v_key v_wait v_problem v_code v_length v_cond v_masks v_addr v_mwanted v_wrong v_after v_calls v_oneB v_twoB v_mrF x0 x1 x2) 0 0 := by
  refine met_std (by decide) rfl (Nat.le_of_ble_eq_true rfl) ?_
  intro p e s m below meth c A ls H hx hb hr hml hown hts hlocks hA hP hK hD hS hNW hl
  have hl : lv_has ls 17 [(0, .ref a_mo), (1, .int x0), (2, .int x1), (3, .int x2)] := hl
  have q_0 := hts _ (List.mem_cons_of_mem _ wd_836)
  have q_1 := hts _ (List.mem_cons_of_mem _ wd_779)
  have q_2 := hts _ (List.mem_cons_of_mem _ wd_803)
  have q_3 := hts _ (List.mem_cons_of_mem _ wd_792)
  have q_4 := hts _ (List.mem_cons_of_mem _ wd_793)
  have q_5 := hts _ (List.mem_cons_of_mem _ wd_848)
  refine lv_iload_n hx hb dX12_shift_0 rfl (lv_at hl 1 rfl) ?_
  refine lv_sipush (v := 140) hx hb dX12_shift_1 (by decide) ?_
  have J_12 : ∀ (m_12 : Int32), m_12 = (if x0 < 140 then (0) else (1)) → ∀ (H : Heap) (locs : List Loc), va_P D vwCl (wX12_shift cI cB a_mo a_mem a_mks a_mr a_cnt a_wd a_one a_two a_mmade a_mrest a_old v_thrown v_mask v_key v_wait v_problem v_code v_length v_cond v_masks v_addr v_mwanted v_wrong v_after v_calls v_oneB v_twoB v_mrF) H → va_D A (wX12_shift cI cB a_mo a_mem a_mks a_mr a_cnt a_wd a_one a_two a_mmade a_mrest a_old v_thrown v_mask v_key v_wait v_problem v_code v_length v_cond v_masks v_addr v_mwanted v_wrong v_after v_calls v_oneB v_twoB v_mrF) → va_S A s.heap H locs → ∀ (ls : Array Slot), lv_has ls 17 [(0, .ref a_mo), (1, .int x0), (2, .int x1), (3, .int x2)] → W p l e rmX12_shift s m ([.ref a_mo, .int x0, .int x1, .int x2] : List Value).toArray below meth c H locs 0 0 (MQ below (qX12_shift D cI cB a_mo a_mem a_mks a_mr a_cnt a_wd a_one a_two a_mmade a_mrest a_old v_thrown v_mask v_key v_wait v_problem v_code v_length v_cond v_masks v_addr v_mwanted v_wrong v_after v_calls v_oneB v_twoB v_mrF x0 x1 x2 A) ([.ref a_mo, .int x0, .int x1, .int x2] : List Value).toArray s 0 0 A) (F0 m 12 ls [.int m_12]) := by
    intro m_12 em_12 H locs hP hD hS ls hl
    try dsimp only at em_12
    have zm_12_0 : m_12 = 0 ∨ m_12 = 1 := by rw [em_12]; (try dsimp only); (repeat' split) <;> first | exact Or.inl rfl | exact Or.inr rfl
    refine lv_istore (lv' := [(4, .int m_12), (0, .ref a_mo), (1, .int x0), (2, .int x1), (3, .int x2)]) hx hb dX12_shift_12 hl (by decide) rfl (fun ls hl => ?_)
    refine lv_iload hx hb dX12_shift_14 (lv_at hl 0 rfl) ?_
    have J_32 : ∀ (m_32 : Int32), m_32 = (if m_12 = 0 then (v_wrong) else (if (x1 - x1 / 2 * 2) = 1 then (let u_29 := fX12_meet 6 v_wrong; u_29) else (v_wrong))) → ∀ (H : Heap) (locs : List Loc), va_P D vwCl (wX12_shift cI cB a_mo a_mem a_mks a_mr a_cnt a_wd a_one a_two a_mmade a_mrest a_old v_thrown v_mask v_key v_wait v_problem v_code v_length v_cond v_masks v_addr v_mwanted m_32 v_after v_calls v_oneB v_twoB v_mrF) H → va_D A (wX12_shift cI cB a_mo a_mem a_mks a_mr a_cnt a_wd a_one a_two a_mmade a_mrest a_old v_thrown v_mask v_key v_wait v_problem v_code v_length v_cond v_masks v_addr v_mwanted m_32 v_after v_calls v_oneB v_twoB v_mrF) → va_S A s.heap H locs → ∀ (ls : Array Slot), lv_has ls 17 [(0, .ref a_mo), (1, .int x0), (2, .int x1), (3, .int x2), (4, .int m_12)] → W p l e rmX12_shift s m ([.ref a_mo, .int x0, .int x1, .int x2] : List Value).toArray below meth c H locs 0 0 (MQ below (qX12_shift D cI cB a_mo a_mem a_mks a_mr a_cnt a_wd a_one a_two a_mmade a_mrest a_old v_thrown v_mask v_key v_wait v_problem v_code v_length v_cond v_masks v_addr v_mwanted v_wrong v_after v_calls v_oneB v_twoB v_mrF x0 x1 x2 A) ([.ref a_mo, .int x0, .int x1, .int x2] : List Value).toArray s 0 0 A) (F0 m 32 ls []) := by
      intro m_32 em_32 H locs hP hD hS ls hl
      try dsimp only at em_32
      refine lv_aload_n hx hb dX12_shift_32 rfl (lv_at hl 0 rfl) ?_
      refine va_get (D := D) (ci := 12) (v := .int m_32) (C := RX12) (T := TX12) (N := 26) hx hb hts in_X12 hown hK hP 0 rfl rfl 16 (by decide) q_0 (fun _ h9 => h9) rfl dX12_shift_33 ?_
      refine lv_if_le (tgt := 40) hx hb dX12_shift_36 (by decide) (fun c_36 => ?_) (fun c_36 => ?_)
      · skip
        refine lv_iload_n hx hb dX12_shift_40 rfl (lv_at hl 1 rfl) ?_
        refine lv_iconst (v := 3) hx hb dX12_shift_41 (by decide) ?_
        refine lv_iand hx hb dX12_shift_42 ?_
        refine lv_topi (fun x_43 ex_43 => ?_)
        refine lv_istore (lv' := [(5, .int x_43), (0, .ref a_mo), (1, .int x0), (2, .int x1), (3, .int x2), (4, .int m_12)]) hx hb dX12_shift_43 hl (by decide) rfl (fun ls hl => ?_)
        refine lv_iload hx hb dX12_shift_45 (lv_at hl 0 rfl) ?_
        refine lv_iconst (v := 1) hx hb dX12_shift_47 (by decide) ?_
        refine lv_iand hx hb dX12_shift_48 ?_
        refine lv_iconst (v := 1) hx hb dX12_shift_49 (by decide) ?_
        have J_58 : ∀ (m_58 : Int32), m_58 = (if (x_43 &&& 1) = 1 then (1) else (0)) → ∀ (H : Heap) (locs : List Loc), va_P D vwCl (wX12_shift cI cB a_mo a_mem a_mks a_mr a_cnt a_wd a_one a_two a_mmade a_mrest a_old v_thrown v_mask v_key v_wait v_problem v_code v_length v_cond v_masks v_addr v_mwanted m_32 v_after v_calls v_oneB v_twoB v_mrF) H → va_D A (wX12_shift cI cB a_mo a_mem a_mks a_mr a_cnt a_wd a_one a_two a_mmade a_mrest a_old v_thrown v_mask v_key v_wait v_problem v_code v_length v_cond v_masks v_addr v_mwanted m_32 v_after v_calls v_oneB v_twoB v_mrF) → va_S A s.heap H locs → ∀ (ls : Array Slot), lv_has ls 17 [(0, .ref a_mo), (1, .int x0), (2, .int x1), (3, .int x2), (4, .int m_12), (5, .int x_43)] → W p l e rmX12_shift s m ([.ref a_mo, .int x0, .int x1, .int x2] : List Value).toArray below meth c H locs 0 0 (MQ below (qX12_shift D cI cB a_mo a_mem a_mks a_mr a_cnt a_wd a_one a_two a_mmade a_mrest a_old v_thrown v_mask v_key v_wait v_problem v_code v_length v_cond v_masks v_addr v_mwanted v_wrong v_after v_calls v_oneB v_twoB v_mrF x0 x1 x2 A) ([.ref a_mo, .int x0, .int x1, .int x2] : List Value).toArray s 0 0 A) (F0 m 58 ls [.int m_58]) := by
          intro m_58 em_58 H locs hP hD hS ls hl
          try dsimp only at em_58
          have zm_58_0 : m_58 = 0 ∨ m_58 = 1 := by rw [em_58]; (try dsimp only); (repeat' split) <;> first | exact Or.inl rfl | exact Or.inr rfl
          refine lv_istore (lv' := [(6, .int m_58), (0, .ref a_mo), (1, .int x0), (2, .int x1), (3, .int x2), (4, .int m_12), (5, .int x_43)]) hx hb dX12_shift_58 hl (by decide) rfl (fun ls hl => ?_)
          refine lv_iload hx hb dX12_shift_60 (lv_at hl 6 rfl) ?_
          refine lv_iconst (v := 1) hx hb dX12_shift_62 (by decide) ?_
          have J_71 : ∀ (m_71 : Int32), m_71 = (if x_43 ≤ 1 then (0) else (1)) → ∀ (H : Heap) (locs : List Loc), va_P D vwCl (wX12_shift cI cB a_mo a_mem a_mks a_mr a_cnt a_wd a_one a_two a_mmade a_mrest a_old v_thrown v_mask v_key v_wait v_problem v_code v_length v_cond v_masks v_addr v_mwanted m_32 v_after v_calls v_oneB v_twoB v_mrF) H → va_D A (wX12_shift cI cB a_mo a_mem a_mks a_mr a_cnt a_wd a_one a_two a_mmade a_mrest a_old v_thrown v_mask v_key v_wait v_problem v_code v_length v_cond v_masks v_addr v_mwanted m_32 v_after v_calls v_oneB v_twoB v_mrF) → va_S A s.heap H locs → ∀ (ls : Array Slot), lv_has ls 17 [(0, .ref a_mo), (1, .int x0), (2, .int x1), (3, .int x2), (4, .int m_12), (5, .int x_43), (6, .int m_58)] → W p l e rmX12_shift s m ([.ref a_mo, .int x0, .int x1, .int x2] : List Value).toArray below meth c H locs 0 0 (MQ below (qX12_shift D cI cB a_mo a_mem a_mks a_mr a_cnt a_wd a_one a_two a_mmade a_mrest a_old v_thrown v_mask v_key v_wait v_problem v_code v_length v_cond v_masks v_addr v_mwanted v_wrong v_after v_calls v_oneB v_twoB v_mrF x0 x1 x2 A) ([.ref a_mo, .int x0, .int x1, .int x2] : List Value).toArray s 0 0 A) (F0 m 71 ls [.int m_71]) := by
            intro m_71 em_71 H locs hP hD hS ls hl
            try dsimp only at em_71
            have zm_71_0 : m_71 = 0 ∨ m_71 = 1 := by rw [em_71]; (try dsimp only); (repeat' split) <;> first | exact Or.inl rfl | exact Or.inr rfl
            refine lv_istore (lv' := [(7, .int m_71), (0, .ref a_mo), (1, .int x0), (2, .int x1), (3, .int x2), (4, .int m_12), (5, .int x_43), (6, .int m_58)]) hx hb dX12_shift_71 hl (by decide) rfl (fun ls hl => ?_)
            refine lv_iload hx hb dX12_shift_73 (lv_at hl 5 rfl) ?_
            have J_85 : ∀ (m_85 : Int32), m_85 = (if m_12 = 0 then (32) else (64)) → ∀ (H : Heap) (locs : List Loc), va_P D vwCl (wX12_shift cI cB a_mo a_mem a_mks a_mr a_cnt a_wd a_one a_two a_mmade a_mrest a_old v_thrown v_mask v_key v_wait v_problem v_code v_length v_cond v_masks v_addr v_mwanted m_32 v_after v_calls v_oneB v_twoB v_mrF) H → va_D A (wX12_shift cI cB a_mo a_mem a_mks a_mr a_cnt a_wd a_one a_two a_mmade a_mrest a_old v_thrown v_mask v_key v_wait v_problem v_code v_length v_cond v_masks v_addr v_mwanted m_32 v_after v_calls v_oneB v_twoB v_mrF) → va_S A s.heap H locs → ∀ (ls : Array Slot), lv_has ls 17 [(0, .ref a_mo), (1, .int x0), (2, .int x1), (3, .int x2), (4, .int m_12), (5, .int x_43), (6, .int m_58), (7, .int m_71)] → W p l e rmX12_shift s m ([.ref a_mo, .int x0, .int x1, .int x2] : List Value).toArray below meth c H locs 0 0 (MQ below (qX12_shift D cI cB a_mo a_mem a_mks a_mr a_cnt a_wd a_one a_two a_mmade a_mrest a_old v_thrown v_mask v_key v_wait v_problem v_code v_length v_cond v_masks v_addr v_mwanted v_wrong v_after v_calls v_oneB v_twoB v_mrF x0 x1 x2 A) ([.ref a_mo, .int x0, .int x1, .int x2] : List Value).toArray s 0 0 A) (F0 m 85 ls [.int m_85]) := by
              intro m_85 em_85 H locs hP hD hS ls hl
              try dsimp only at em_85
              refine lv_istore (lv' := [(8, .int m_85), (0, .ref a_mo), (1, .int x0), (2, .int x1), (3, .int x2), (4, .int m_12), (5, .int x_43), (6, .int m_58), (7, .int m_71)]) hx hb dX12_shift_85 hl (by decide) rfl (fun ls hl => ?_)
              refine lv_iload hx hb dX12_shift_87 (lv_at hl 5 rfl) ?_
              have J_109 : ∀ (m_109 : Int64), m_109 = (if m_12 = 0 then (let r_106 := fX12_plain (v_mrF (x1 : Int32).toNatClampNeg); r_106) else (let r_94 := fX12_pair x1 v_mrF; r_94)) → ∀ (H : Heap) (locs : List Loc), va_P D vwCl (wX12_shift cI cB a_mo a_mem a_mks a_mr a_cnt a_wd a_one a_two a_mmade a_mrest a_old v_thrown v_mask v_key v_wait v_problem v_code v_length v_cond v_masks v_addr v_mwanted m_32 v_after v_calls v_oneB v_twoB v_mrF) H → va_D A (wX12_shift cI cB a_mo a_mem a_mks a_mr a_cnt a_wd a_one a_two a_mmade a_mrest a_old v_thrown v_mask v_key v_wait v_problem v_code v_length v_cond v_masks v_addr v_mwanted m_32 v_after v_calls v_oneB v_twoB v_mrF) → va_S A s.heap H locs → ∀ (ls : Array Slot), lv_has ls 17 [(0, .ref a_mo), (1, .int x0), (2, .int x1), (3, .int x2), (4, .int m_12), (5, .int x_43), (6, .int m_58), (7, .int m_71), (8, .int m_85)] → W p l e rmX12_shift s m ([.ref a_mo, .int x0, .int x1, .int x2] : List Value).toArray below meth c H locs 0 0 (MQ below (qX12_shift D cI cB a_mo a_mem a_mks a_mr a_cnt a_wd a_one a_two a_mmade a_mrest a_old v_thrown v_mask v_key v_wait v_problem v_code v_length v_cond v_masks v_addr v_mwanted v_wrong v_after v_calls v_oneB v_twoB v_mrF x0 x1 x2 A) ([.ref a_mo, .int x0, .int x1, .int x2] : List Value).toArray s 0 0 A) (F0 m 109 ls [.long m_109]) := by
                intro m_109 em_109 H locs hP hD hS ls hl
                try dsimp only at em_109
                refine lv_lstore (lv' := [(9, .long m_109), (0, .ref a_mo), (1, .int x0), (2, .int x1), (3, .int x2), (4, .int m_12), (5, .int x_43), (6, .int m_58), (7, .int m_71), (8, .int m_85)]) hx hb dX12_shift_109 hl (by decide) rfl (fun ls hl => ?_)
                refine lv_lconst (v := 1) hx hb dX12_shift_111 (by decide) ?_
                refine lv_iload hx hb dX12_shift_112 (lv_at hl 9 rfl) ?_
                refine lv_iconst (v := 1) hx hb dX12_shift_114 (by decide) ?_
                refine lv_isub hx hb dX12_shift_115 ?_
                refine lv_lshl hx hb dX12_shift_116 rfl ?_
                refine lv_topl (fun x_117 ex_117 => ?_)
                refine lv_lstore (lv' := [(11, .long x_117), (9, .long m_109), (0, .ref a_mo), (1, .int x0), (2, .int x1), (3, .int x2), (4, .int m_12), (5, .int x_43), (6, .int m_58), (7, .int m_71), (8, .int m_85)]) hx hb dX12_shift_117 hl (by decide) rfl (fun ls hl => ?_)
                refine lv_lload hx hb dX12_shift_119 (lv_at hl 1 rfl) ?_
                refine lv_lload hx hb dX12_shift_121 (lv_at hl 0 rfl) ?_
                refine lv_land hx hb dX12_shift_123 ?_
                refine lv_lconst (v := 0) hx hb dX12_shift_124 (by decide) ?_
                refine W.lcmp hx hb dX12_shift_125 ?_
                have J_134 : ∀ (m_134 : Int32), m_134 = (if (lg_cmp ((m_109 &&& x_117)) (0)) = 0 then (0) else (1)) → ∀ (H : Heap) (locs : List Loc), va_P D vwCl (wX12_shift cI cB a_mo a_mem a_mks a_mr a_cnt a_wd a_one a_two a_mmade a_mrest a_old v_thrown v_mask v_key v_wait v_problem v_code v_length v_cond v_masks v_addr v_mwanted m_32 v_after v_calls v_oneB v_twoB v_mrF) H → va_D A (wX12_shift cI cB a_mo a_mem a_mks a_mr a_cnt a_wd a_one a_two a_mmade a_mrest a_old v_thrown v_mask v_key v_wait v_problem v_code v_length v_cond v_masks v_addr v_mwanted m_32 v_after v_calls v_oneB v_twoB v_mrF) → va_S A s.heap H locs → ∀ (ls : Array Slot), lv_has ls 17 [(0, .ref a_mo), (1, .int x0), (2, .int x1), (3, .int x2), (4, .int m_12), (5, .int x_43), (6, .int m_58), (7, .int m_71), (8, .int m_85), (9, .long m_109), (11, .long x_117)] → W p l e rmX12_shift s m ([.ref a_mo, .int x0, .int x1, .int x2] : List Value).toArray below meth c H locs 0 0 (MQ below (qX12_shift D cI cB a_mo a_mem a_mks a_mr a_cnt a_wd a_one a_two a_mmade a_mrest a_old v_thrown v_mask v_key v_wait v_problem v_code v_length v_cond v_masks v_addr v_mwanted v_wrong v_after v_calls v_oneB v_twoB v_mrF x0 x1 x2 A) ([.ref a_mo, .int x0, .int x1, .int x2] : List Value).toArray s 0 0 A) (F0 m 134 ls [.int m_134]) := by
                  intro m_134 em_134 H locs hP hD hS ls hl
                  try dsimp only at em_134
                  have zm_134_0 : m_134 = 0 ∨ m_134 = 1 := by rw [em_134]; (try dsimp only); (repeat' split) <;> first | exact Or.inl rfl | exact Or.inr rfl
                  refine lv_istore (lv' := [(13, .int m_134), (0, .ref a_mo), (1, .int x0), (2, .int x1), (3, .int x2), (4, .int m_12), (5, .int x_43), (6, .int m_58), (7, .int m_71), (8, .int m_85), (9, .long m_109), (11, .long x_117)]) hx hb dX12_shift_134 hl (by decide) rfl (fun ls hl => ?_)
                  refine lv_iconst (v := 0) hx hb dX12_shift_136 (by decide) ?_
                  refine lv_istore (lv' := [(14, .int 0), (13, .int m_134), (0, .ref a_mo), (1, .int x0), (2, .int x1), (3, .int x2), (4, .int m_12), (5, .int x_43), (6, .int m_58), (7, .int m_71), (8, .int m_85), (9, .long m_109), (11, .long x_117)]) hx hb dX12_shift_137 hl (by decide) rfl (fun ls hl => ?_)
                  refine lv_iconst (v := 0) hx hb dX12_shift_139 (by decide) ?_
                  refine lv_istore (lv' := [(15, .int 0), (14, .int 0), (13, .int m_134), (0, .ref a_mo), (1, .int x0), (2, .int x1), (3, .int x2), (4, .int m_12), (5, .int x_43), (6, .int m_58), (7, .int m_71), (8, .int m_85), (9, .long m_109), (11, .long x_117)]) hx hb dX12_shift_140 hl (by decide) rfl (fun ls hl => ?_)
                  obtain ⟨g_142, eg_142⟩ : ∃ z : (Int64 × Int32 × Int32), z = LX12_shift_142 x2 m_12 m_58 m_71 x_117 m_134 (msU x2 0 + 1) (m_109, 0, 0) := ⟨_, rfl⟩
                  have K_142_0 : ∀ (H : Heap) (locs : List Loc), va_P D vwCl (wX12_shift cI cB a_mo a_mem a_mks a_mr a_cnt a_wd a_one a_two a_mmade a_mrest a_old v_thrown v_mask v_key v_wait v_problem v_code v_length v_cond v_masks v_addr v_mwanted m_32 v_after v_calls v_oneB v_twoB v_mrF) H → va_D A (wX12_shift cI cB a_mo a_mem a_mks a_mr a_cnt a_wd a_one a_two a_mmade a_mrest a_old v_thrown v_mask v_key v_wait v_problem v_code v_length v_cond v_masks v_addr v_mwanted m_32 v_after v_calls v_oneB v_twoB v_mrF) → va_S A s.heap H locs → ∀ (ls : Array Slot), lv_has ls 17 [(0, .ref a_mo), (1, .int x0), (2, .int x1), (3, .int x2), (4, .int m_12), (5, .int x_43), (6, .int m_58), (7, .int m_71), (8, .int m_85), (9, .long g_142.1), (11, .long x_117), (13, .int m_134), (14, .int g_142.2.1), (15, .int g_142.2.2)] → W p l e rmX12_shift s m ([.ref a_mo, .int x0, .int x1, .int x2] : List Value).toArray below meth c H locs 0 0 (MQ below (qX12_shift D cI cB a_mo a_mem a_mks a_mr a_cnt a_wd a_one a_two a_mmade a_mrest a_old v_thrown v_mask v_key v_wait v_problem v_code v_length v_cond v_masks v_addr v_mwanted v_wrong v_after v_calls v_oneB v_twoB v_mrF x0 x1 x2 A) ([.ref a_mo, .int x0, .int x1, .int x2] : List Value).toArray s 0 0 A) (F0 m 281 ls []) := by
                    intro H locs hP hD hS ls hl
                    refine lv_iload hx hb dX12_shift_281 (lv_at hl 4 rfl) ?_
                    have J_321 : ∀ (m_321 : (Nat → Int32)), m_321 = (if m_12 = 0 then (let f_320 := upd v_mrF (x1 : Int32).toNatClampNeg ((g_142.1 : Int64).toInt32); f_320) else (let f_297 := upd v_mrF (x1 : Int32).toNatClampNeg (((g_142.1 >>> ((32 : Int32).toInt64 &&& 63)) : Int64).toInt32); let f_308 := upd f_297 ((x1 + 1) : Int32).toNatClampNeg ((g_142.1 : Int64).toInt32); f_308)) → ∀ (H : Heap) (locs : List Loc), va_P D vwCl (wX12_shift cI cB a_mo a_mem a_mks a_mr a_cnt a_wd a_one a_two a_mmade a_mrest a_old v_thrown v_mask v_key v_wait v_problem v_code v_length v_cond v_masks v_addr v_mwanted m_32 v_after v_calls v_oneB v_twoB m_321) H → va_D A (wX12_shift cI cB a_mo a_mem a_mks a_mr a_cnt a_wd a_one a_two a_mmade a_mrest a_old v_thrown v_mask v_key v_wait v_problem v_code v_length v_cond v_masks v_addr v_mwanted m_32 v_after v_calls v_oneB v_twoB m_321) → va_S A s.heap H locs → ∀ (ls : Array Slot), lv_has ls 17 [(0, .ref a_mo), (1, .int x0), (2, .int x1), (3, .int x2), (4, .int m_12), (5, .int x_43), (6, .int m_58), (7, .int m_71), (8, .int m_85), (9, .long g_142.1), (11, .long x_117), (13, .int m_134), (14, .int g_142.2.1), (15, .int g_142.2.2)] → W p l e rmX12_shift s m ([.ref a_mo, .int x0, .int x1, .int x2] : List Value).toArray below meth c H locs 0 0 (MQ below (qX12_shift D cI cB a_mo a_mem a_mks a_mr a_cnt a_wd a_one a_two a_mmade a_mrest a_old v_thrown v_mask v_key v_wait v_problem v_code v_length v_cond v_masks v_addr v_mwanted v_wrong v_after v_calls v_oneB v_twoB v_mrF x0 x1 x2 A) ([.ref a_mo, .int x0, .int x1, .int x2] : List Value).toArray s 0 0 A) (F0 m 321 ls []) := by
                      intro m_321 em_321 H locs hP hD hS ls hl
                      try dsimp only at em_321
                      refine lv_iload hx hb dX12_shift_321 (lv_at hl 7 rfl) ?_
                      refine lv_if_eq (tgt := 399) hx hb dX12_shift_323 (by decide) (fun c_323 => ?_) (fun c_323 => ?_)
                      · skip
                        have hf9 : (v_cond, m_32, v_after, m_321) = fX12_shift x0 x1 x2 v_cond v_masks v_wrong v_after v_mrF := by subst ex_117; subst ex_43; simp only [fX12_shift, ← em_12, ← em_32, ← em_58, ← em_71, ← em_85, ← em_109, ← em_134, ← eg_142, ← em_321]; (try simp only [if_pos c_36, if_pos c_323])
                        exact W.vret hx hb hr (fun t9 ht9 hW9 => ⟨⟨(v_cond, m_32, v_after, m_321), rfl, hf9, ⟨by rw [ht9]; exact hP, va_K.moved hW9.alike hK, hD⟩⟩, hS.F ht9⟩) hS.2.2 dX12_shift_399
                      · skip
                        refine lv_iload hx hb dX12_shift_326 (lv_at hl 4 rfl) ?_
                        have J_340 : ∀ (m_340 : Int64), m_340 = (if m_12 = 0 then (((g_142.1 : Int64).toInt32 : Int32).toInt64) else (g_142.1)) → ∀ (H : Heap) (locs : List Loc), va_P D vwCl (wX12_shift cI cB a_mo a_mem a_mks a_mr a_cnt a_wd a_one a_two a_mmade a_mrest a_old v_thrown v_mask v_key v_wait v_problem v_code v_length v_cond v_masks v_addr v_mwanted m_32 v_after v_calls v_oneB v_twoB m_321) H → va_D A (wX12_shift cI cB a_mo a_mem a_mks a_mr a_cnt a_wd a_one a_two a_mmade a_mrest a_old v_thrown v_mask v_key v_wait v_problem v_code v_length v_cond v_masks v_addr v_mwanted m_32 v_after v_calls v_oneB v_twoB m_321) → va_S A s.heap H locs → ∀ (ls : Array Slot), lv_has ls 17 [(0, .ref a_mo), (1, .int x0), (2, .int x1), (3, .int x2), (4, .int m_12), (5, .int x_43), (6, .int m_58), (7, .int m_71), (8, .int m_85), (9, .long g_142.1), (11, .long x_117), (13, .int m_134), (14, .int g_142.2.1), (15, .int g_142.2.2)] → W p l e rmX12_shift s m ([.ref a_mo, .int x0, .int x1, .int x2] : List Value).toArray below meth c H locs 0 0 (MQ below (qX12_shift D cI cB a_mo a_mem a_mks a_mr a_cnt a_wd a_one a_two a_mmade a_mrest a_old v_thrown v_mask v_key v_wait v_problem v_code v_length v_cond v_masks v_addr v_mwanted v_wrong v_after v_calls v_oneB v_twoB v_mrF x0 x1 x2 A) ([.ref a_mo, .int x0, .int x1, .int x2] : List Value).toArray s 0 0 A) (F0 m 340 ls [.long m_340]) := by
                          intro m_340 em_340 H locs hP hD hS ls hl
                          try dsimp only at em_340
                          refine lv_lstore (lv' := [(15, .long m_340), (0, .ref a_mo), (1, .int x0), (2, .int x1), (3, .int x2), (4, .int m_12), (5, .int x_43), (6, .int m_58), (7, .int m_71), (8, .int m_85), (9, .long g_142.1), (11, .long x_117), (13, .int m_134), (14, .int g_142.2.1)]) hx hb dX12_shift_340 hl (by decide) rfl (fun ls hl => ?_)
                          refine lv_aload_n hx hb dX12_shift_342 rfl (lv_at hl 1 rfl) ?_
                          refine lv_iload hx hb dX12_shift_343 (lv_at hl 13 rfl) ?_
                          have J_375 : ∀ (m_375 : Int32), m_375 = (if g_142.2.1 = 0 then (if (lg_cmp (m_340) (0)) = 0 then (0) else (if 0 ≤ (lg_cmp (m_340) (0)) then (2) else (1))) else (3)) → ∀ (H : Heap) (locs : List Loc), va_P D vwCl (wX12_shift cI cB a_mo a_mem a_mks a_mr a_cnt a_wd a_one a_two a_mmade a_mrest a_old v_thrown v_mask v_key v_wait v_problem v_code v_length v_cond v_masks v_addr v_mwanted m_32 v_after v_calls v_oneB v_twoB m_321) H → va_D A (wX12_shift cI cB a_mo a_mem a_mks a_mr a_cnt a_wd a_one a_two a_mmade a_mrest a_old v_thrown v_mask v_key v_wait v_problem v_code v_length v_cond v_masks v_addr v_mwanted m_32 v_after v_calls v_oneB v_twoB m_321) → va_S A s.heap H locs → ∀ (ls : Array Slot), lv_has ls 17 [(0, .ref a_mo), (1, .int x0), (2, .int x1), (3, .int x2), (4, .int m_12), (5, .int x_43), (6, .int m_58), (7, .int m_71), (8, .int m_85), (9, .long g_142.1), (11, .long x_117), (13, .int m_134), (14, .int g_142.2.1), (15, .long m_340)] → W p l e rmX12_shift s m ([.ref a_mo, .int x0, .int x1, .int x2] : List Value).toArray below meth c H locs 0 0 (MQ below (qX12_shift D cI cB a_mo a_mem a_mks a_mr a_cnt a_wd a_one a_two a_mmade a_mrest a_old v_thrown v_mask v_key v_wait v_problem v_code v_length v_cond v_masks v_addr v_mwanted v_wrong v_after v_calls v_oneB v_twoB v_mrF x0 x1 x2 A) ([.ref a_mo, .int x0, .int x1, .int x2] : List Value).toArray s 0 0 A) (F0 m 375 ls [.int m_375, .ref a_mo]) := by
                            intro m_375 em_375 H locs hP hD hS ls hl
                            try dsimp only at em_375
                            refine va_put (D := D) (ci := 12) (v := .int m_375) (ty := .int) (C := RX12) (T := TX12) (N := 26) hx hb hts in_X12 tyX12 tyX12_ok nmX12 hown hK hP hD hS 0 rfl rfl 10 (by decide) q_3 (fun _ h9 => h9) rfl (by decide +kernel) rfl rfl (Nat.le_of_ble_eq_true rfl) dX12_shift_375 (fun H locs hP hD hS => ?_)
                            have hP : va_P D vwCl (wX12_shift cI cB a_mo a_mem a_mks a_mr a_cnt a_wd a_one a_two a_mmade a_mrest a_old v_thrown v_mask v_key v_wait v_problem v_code v_length m_375 v_masks v_addr v_mwanted m_32 v_after v_calls v_oneB v_twoB m_321) H := hP
                            have hD : va_D A (wX12_shift cI cB a_mo a_mem a_mks a_mr a_cnt a_wd a_one a_two a_mmade a_mrest a_old v_thrown v_mask v_key v_wait v_problem v_code v_length m_375 v_masks v_addr v_mwanted m_32 v_after v_calls v_oneB v_twoB m_321) := hD
                            refine lv_iload hx hb dX12_shift_378 (lv_at hl 12 rfl) ?_
                            refine lv_if_eq (tgt := 399) hx hb dX12_shift_380 (by decide) (fun c_380 => ?_) (fun c_380 => ?_)
                            · skip
                              have hf9 : (m_375, m_32, v_after, m_321) = fX12_shift x0 x1 x2 v_cond v_masks v_wrong v_after v_mrF := by subst ex_117; subst ex_43; simp only [fX12_shift, ← em_12, ← em_32, ← em_58, ← em_71, ← em_85, ← em_109, ← em_134, ← eg_142, ← em_321, ← em_340, ← em_375]; (try simp only [if_pos c_36, if_neg c_323, if_pos c_380])
                              exact W.vret hx hb hr (fun t9 ht9 hW9 => ⟨⟨(m_375, m_32, v_after, m_321), rfl, hf9, ⟨by rw [ht9]; exact hP, va_K.moved hW9.alike hK, hD⟩⟩, hS.F ht9⟩) hS.2.2 dX12_shift_399
                            · skip
                              refine lv_aload_n hx hb dX12_shift_383 rfl (lv_at hl 0 rfl) ?_
                              refine va_get (D := D) (ci := 12) (v := .int v_masks) (C := RX12) (T := TX12) (N := 26) hx hb hts in_X12 hown hK hP 0 rfl rfl 11 (by decide) q_4 (fun _ h9 => h9) rfl dX12_shift_384 ?_
                              refine lv_bipush (v := 8) hx hb dX12_shift_387 (by decide) ?_
                              refine lv_iand hx hb dX12_shift_389 ?_
                              refine lv_if_eq (tgt := 399) hx hb dX12_shift_390 (by decide) (fun c_390 => ?_) (fun c_390 => ?_)
                              · skip
                                have hf9 : (m_375, m_32, v_after, m_321) = fX12_shift x0 x1 x2 v_cond v_masks v_wrong v_after v_mrF := by subst ex_117; subst ex_43; simp only [fX12_shift, ← em_12, ← em_32, ← em_58, ← em_71, ← em_85, ← em_109, ← em_134, ← eg_142, ← em_321, ← em_340, ← em_375]; (try simp only [if_pos c_36, if_neg c_323, if_neg c_380, if_pos c_390])
                                exact W.vret hx hb hr (fun t9 ht9 hW9 => ⟨⟨(m_375, m_32, v_after, m_321), rfl, hf9, ⟨by rw [ht9]; exact hP, va_K.moved hW9.alike hK, hD⟩⟩, hS.F ht9⟩) hS.2.2 dX12_shift_399
                              · skip
                                refine lv_aload_n hx hb dX12_shift_393 rfl (lv_at hl 0 rfl) ?_
                                refine lv_bipush (v := 8) hx hb dX12_shift_394 (by decide) ?_
                                refine va_put (D := D) (ci := 12) (v := .int 8) (ty := .int) (C := RX12) (T := TX12) (N := 26) hx hb hts in_X12 tyX12 tyX12_ok nmX12 hown hK hP hD hS 0 rfl rfl 17 (by decide) q_5 (fun _ h9 => h9) rfl (by decide +kernel) rfl rfl (Nat.le_of_ble_eq_true rfl) dX12_shift_396 (fun H locs hP hD hS => ?_)
                                have hP : va_P D vwCl (wX12_shift cI cB a_mo a_mem a_mks a_mr a_cnt a_wd a_one a_two a_mmade a_mrest a_old v_thrown v_mask v_key v_wait v_problem v_code v_length m_375 v_masks v_addr v_mwanted m_32 8 v_calls v_oneB v_twoB m_321) H := hP
                                have hD : va_D A (wX12_shift cI cB a_mo a_mem a_mks a_mr a_cnt a_wd a_one a_two a_mmade a_mrest a_old v_thrown v_mask v_key v_wait v_problem v_code v_length m_375 v_masks v_addr v_mwanted m_32 8 v_calls v_oneB v_twoB m_321) := hD
                                have hf9 : (m_375, m_32, 8, m_321) = fX12_shift x0 x1 x2 v_cond v_masks v_wrong v_after v_mrF := by subst ex_117; subst ex_43; simp only [fX12_shift, ← em_12, ← em_32, ← em_58, ← em_71, ← em_85, ← em_109, ← em_134, ← eg_142, ← em_321, ← em_340, ← em_375]; (try simp only [if_pos c_36, if_neg c_323, if_neg c_380, if_neg c_390])
                                exact W.vret hx hb hr (fun t9 ht9 hW9 => ⟨⟨(m_375, m_32, 8, m_321), rfl, hf9, ⟨by rw [ht9]; exact hP, va_K.moved hW9.alike hK, hD⟩⟩, hS.F ht9⟩) hS.2.2 dX12_shift_399
                          refine lv_if_eq (tgt := 352) hx hb dX12_shift_345 (by decide) (fun c_345 => ?_) (fun c_345 => ?_)
                          · skip
                            refine lv_lload hx hb dX12_shift_352 (lv_at hl 0 rfl) ?_
                            refine lv_lconst (v := 0) hx hb dX12_shift_354 (by decide) ?_
                            refine W.lcmp hx hb dX12_shift_355 ?_
                            refine lv_if_ne (tgt := 363) hx hb dX12_shift_356 (by decide) (fun c_356 => ?_) (fun c_356 => ?_)
                            · skip
                              refine lv_lload hx hb dX12_shift_363 (lv_at hl 0 rfl) ?_
                              refine lv_lconst (v := 0) hx hb dX12_shift_365 (by decide) ?_
                              refine W.lcmp hx hb dX12_shift_366 ?_
                              refine lv_if_ge (tgt := 374) hx hb dX12_shift_367 (by decide) (fun c_367 => ?_) (fun c_367 => ?_)
                              · skip
                                refine lv_iconst (v := 2) hx hb dX12_shift_374 (by decide) ?_
                                exact J_375 2 (by (try simp only [if_pos c_345, if_neg c_356, if_pos c_367])) _ _ hP hD hS ls (lv_sub hl [1, 2, 3, 4, 5, 6, 7, 8, 9, 10, 11, 12, 13, 0] rfl)
                              · skip
                                refine lv_iconst (v := 1) hx hb dX12_shift_370 (by decide) ?_
                                refine lv_goto (tgt := 375) hx hb dX12_shift_371 (by decide) ?_
                                exact J_375 1 (by (try simp only [if_pos c_345, if_neg c_356, if_neg c_367])) _ _ hP hD hS ls (lv_sub hl [1, 2, 3, 4, 5, 6, 7, 8, 9, 10, 11, 12, 13, 0] rfl)
                            · skip
                              refine lv_iconst (v := 0) hx hb dX12_shift_359 (by decide) ?_
                              refine lv_goto (tgt := 375) hx hb dX12_shift_360 (by decide) ?_
                              exact J_375 0 (by (try simp only [if_pos c_345, if_pos c_356])) _ _ hP hD hS ls (lv_sub hl [1, 2, 3, 4, 5, 6, 7, 8, 9, 10, 11, 12, 13, 0] rfl)
                          · skip
                            refine lv_iconst (v := 3) hx hb dX12_shift_348 (by decide) ?_
                            refine lv_goto (tgt := 375) hx hb dX12_shift_349 (by decide) ?_
                            exact J_375 3 (by (try simp only [if_neg c_345])) _ _ hP hD hS ls (lv_sub hl [1, 2, 3, 4, 5, 6, 7, 8, 9, 10, 11, 12, 13, 0] rfl)
                        refine lv_if_eq (tgt := 336) hx hb dX12_shift_328 (by decide) (fun c_328 => ?_) (fun c_328 => ?_)
                        · skip
                          refine lv_lload hx hb dX12_shift_336 (lv_at hl 9 rfl) ?_
                          refine lv_l2i hx hb dX12_shift_338 rfl ?_
                          refine lv_i2l hx hb dX12_shift_339 rfl ?_
                          exact J_340 (((g_142.1 : Int64).toInt32 : Int32).toInt64) (by (try simp only [if_pos c_328])) _ _ hP hD hS ls (lv_sub hl [0, 1, 2, 3, 4, 5, 6, 7, 8, 9, 10, 11, 12, 13] rfl)
                        · skip
                          refine lv_lload hx hb dX12_shift_331 (lv_at hl 9 rfl) ?_
                          refine lv_goto (tgt := 340) hx hb dX12_shift_333 (by decide) ?_
                          exact J_340 g_142.1 (by (try simp only [if_neg c_328])) _ _ hP hD hS ls (lv_sub hl [0, 1, 2, 3, 4, 5, 6, 7, 8, 9, 10, 11, 12, 13] rfl)
                    refine lv_if_eq (tgt := 312) hx hb dX12_shift_283 (by decide) (fun c_283 => ?_) (fun c_283 => ?_)
                    · skip
                      refine lv_aload_n hx hb dX12_shift_312 rfl (lv_at hl 0 rfl) ?_
                      refine va_get (D := D) (ci := 12) (v := .ref a_mr) (C := RX12) (T := TX12) (N := 26) hx hb hts in_X12 hown hK hP 0 rfl rfl 3 (by decide) q_1 (fun _ h9 => h9) rfl dX12_shift_313 ?_
                      refine lv_iload_n hx hb dX12_shift_316 rfl (lv_at hl 2 rfl) ?_
                      refine lv_lload hx hb dX12_shift_317 (lv_at hl 9 rfl) ?_
                      refine lv_l2i hx hb dX12_shift_319 rfl ?_
                      refine va_iast hx hb hK hP hD hS 1 0 rfl rfl (by first | with_reducible assumption | exact vin_of (b := 16) (by decide) (by with_reducible assumption) (by with_reducible assumption) | exact vin_of (b := 16) (by decide) (Int32.not_lt.mp (by with_reducible assumption)) (by with_reducible assumption) | exact vin_dn (by decide) (by with_reducible assumption) hI9) dX12_shift_320 (fun H locs hP hD hS => ?_)
                      obtain ⟨f_320, ef_320⟩ : ∃ z : Nat → Int32, z = upd v_mrF (x1 : Int32).toNatClampNeg ((g_142.1 : Int64).toInt32) := ⟨_, rfl⟩
                      have hP : va_P D vwCl (wX12_shift cI cB a_mo a_mem a_mks a_mr a_cnt a_wd a_one a_two a_mmade a_mrest a_old v_thrown v_mask v_key v_wait v_problem v_code v_length v_cond v_masks v_addr v_mwanted m_32 v_after v_calls v_oneB v_twoB (upd v_mrF (x1 : Int32).toNatClampNeg ((g_142.1 : Int64).toInt32))) H := hP
                      have hD : va_D A (wX12_shift cI cB a_mo a_mem a_mks a_mr a_cnt a_wd a_one a_two a_mmade a_mrest a_old v_thrown v_mask v_key v_wait v_problem v_code v_length v_cond v_masks v_addr v_mwanted m_32 v_after v_calls v_oneB v_twoB (upd v_mrF (x1 : Int32).toNatClampNeg ((g_142.1 : Int64).toInt32))) := hD
                      rw [← ef_320] at hP hD
                      exact J_321 f_320 (by subst ef_320; (try simp only [if_pos c_283])) _ _ hP hD hS ls (lv_sub hl [0, 1, 2, 3, 4, 5, 6, 7, 8, 9, 10, 11, 12, 13] rfl)
                    · skip
                      refine lv_aload_n hx hb dX12_shift_286 rfl (lv_at hl 0 rfl) ?_
                      refine va_get (D := D) (ci := 12) (v := .ref a_mr) (C := RX12) (T := TX12) (N := 26) hx hb hts in_X12 hown hK hP 0 rfl rfl 3 (by decide) q_1 (fun _ h9 => h9) rfl dX12_shift_287 ?_
                      refine lv_iload_n hx hb dX12_shift_290 rfl (lv_at hl 2 rfl) ?_
                      refine lv_lload hx hb dX12_shift_291 (lv_at hl 9 rfl) ?_
                      refine lv_bipush (v := 32) hx hb dX12_shift_293 (by decide) ?_
                      refine lv_lshr hx hb dX12_shift_295 rfl ?_
                      refine lv_l2i hx hb dX12_shift_296 rfl ?_
                      refine va_iast hx hb hK hP hD hS 1 0 rfl rfl (by first | with_reducible assumption | exact vin_of (b := 16) (by decide) (by with_reducible assumption) (by with_reducible assumption) | exact vin_of (b := 16) (by decide) (Int32.not_lt.mp (by with_reducible assumption)) (by with_reducible assumption) | exact vin_dn (by decide) (by with_reducible assumption) hI9) dX12_shift_297 (fun H locs hP hD hS => ?_)
                      obtain ⟨f_297, ef_297⟩ : ∃ z : Nat → Int32, z = upd v_mrF (x1 : Int32).toNatClampNeg (((g_142.1 >>> ((32 : Int32).toInt64 &&& 63)) : Int64).toInt32) := ⟨_, rfl⟩
                      have hP : va_P D vwCl (wX12_shift cI cB a_mo a_mem a_mks a_mr a_cnt a_wd a_one a_two a_mmade a_mrest a_old v_thrown v_mask v_key v_wait v_problem v_code v_length v_cond v_masks v_addr v_mwanted m_32 v_after v_calls v_oneB v_twoB (upd v_mrF (x1 : Int32).toNatClampNeg (((g_142.1 >>> ((32 : Int32).toInt64 &&& 63)) : Int64).toInt32))) H := hP
                      have hD : va_D A (wX12_shift cI cB a_mo a_mem a_mks a_mr a_cnt a_wd a_one a_two a_mmade a_mrest a_old v_thrown v_mask v_key v_wait v_problem v_code v_length v_cond v_masks v_addr v_mwanted m_32 v_after v_calls v_oneB v_twoB (upd v_mrF (x1 : Int32).toNatClampNeg (((g_142.1 >>> ((32 : Int32).toInt64 &&& 63)) : Int64).toInt32))) := hD
                      rw [← ef_297] at hP hD
                      refine lv_aload_n hx hb dX12_shift_298 rfl (lv_at hl 0 rfl) ?_
                      refine va_get (D := D) (ci := 12) (v := .ref a_mr) (C := RX12) (T := TX12) (N := 26) hx hb hts in_X12 hown hK hP 0 rfl rfl 3 (by decide) q_1 (fun _ h9 => h9) rfl dX12_shift_299 ?_
                      refine lv_iload_n hx hb dX12_shift_302 rfl (lv_at hl 2 rfl) ?_
                      refine lv_iconst (v := 1) hx hb dX12_shift_303 (by decide) ?_
                      refine lv_iadd hx hb dX12_shift_304 ?_
                      refine lv_lload hx hb dX12_shift_305 (lv_at hl 9 rfl) ?_
                      refine lv_l2i hx hb dX12_shift_307 rfl ?_
                      refine va_iast hx hb hK hP hD hS 1 0 rfl rfl (vin_s (sh_e hk hw em_32 c_36 c_283)) dX12_shift_308 (fun H locs hP hD hS => ?_)
                      obtain ⟨f_308, ef_308⟩ : ∃ z : Nat → Int32, z = upd f_297 ((x1 + 1) : Int32).toNatClampNeg ((g_142.1 : Int64).toInt32) := ⟨_, rfl⟩
                      have hP : va_P D vwCl (wX12_shift cI cB a_mo a_mem a_mks a_mr a_cnt a_wd a_one a_two a_mmade a_mrest a_old v_thrown v_mask v_key v_wait v_problem v_code v_length v_cond v_masks v_addr v_mwanted m_32 v_after v_calls v_oneB v_twoB (upd f_297 ((x1 + 1) : Int32).toNatClampNeg ((g_142.1 : Int64).toInt32))) H := hP
                      have hD : va_D A (wX12_shift cI cB a_mo a_mem a_mks a_mr a_cnt a_wd a_one a_two a_mmade a_mrest a_old v_thrown v_mask v_key v_wait v_problem v_code v_length v_cond v_masks v_addr v_mwanted m_32 v_after v_calls v_oneB v_twoB (upd f_297 ((x1 + 1) : Int32).toNatClampNeg ((g_142.1 : Int64).toInt32))) := hD
                      rw [← ef_308] at hP hD
                      refine lv_goto (tgt := 321) hx hb dX12_shift_309 (by decide) ?_
                      exact J_321 f_308 (by subst ef_308; subst ef_297; (try simp only [if_neg c_283])) _ _ hP hD hS ls (lv_sub hl [0, 1, 2, 3, 4, 5, 6, 7, 8, 9, 10, 11, 12, 13] rfl)
                  have lp_142 : ∀ (n9 : Nat) (w_142 : (Int64 × Int32 × Int32)), msU x2 w_142.2.2 < n9 → LX12_shift_142 x2 m_12 m_58 m_71 x_117 m_134 n9 w_142 = g_142 → ∀ (H : Heap) (locs : List Loc), va_P D vwCl (wX12_shift cI cB a_mo a_mem a_mks a_mr a_cnt a_wd a_one a_two a_mmade a_mrest a_old v_thrown v_mask v_key v_wait v_problem v_code v_length v_cond v_masks v_addr v_mwanted m_32 v_after v_calls v_oneB v_twoB v_mrF) H → va_D A (wX12_shift cI cB a_mo a_mem a_mks a_mr a_cnt a_wd a_one a_two a_mmade a_mrest a_old v_thrown v_mask v_key v_wait v_problem v_code v_length v_cond v_masks v_addr v_mwanted m_32 v_after v_calls v_oneB v_twoB v_mrF) → va_S A s.heap H locs → ∀ (ls : Array Slot), lv_has ls 17 [(0, .ref a_mo), (1, .int x0), (2, .int x1), (3, .int x2), (4, .int m_12), (5, .int x_43), (6, .int m_58), (7, .int m_71), (8, .int m_85), (9, .long w_142.1), (11, .long x_117), (13, .int m_134), (14, .int w_142.2.1), (15, .int w_142.2.2)] → W p l e rmX12_shift s m ([.ref a_mo, .int x0, .int x1, .int x2] : List Value).toArray below meth c H locs 0 0 (MQ below (qX12_shift D cI cB a_mo a_mem a_mks a_mr a_cnt a_wd a_one a_two a_mmade a_mrest a_old v_thrown v_mask v_key v_wait v_problem v_code v_length v_cond v_masks v_addr v_mwanted v_wrong v_after v_calls v_oneB v_twoB v_mrF x0 x1 x2 A) ([.ref a_mo, .int x0, .int x1, .int x2] : List Value).toArray s 0 0 A) (F0 m 142 ls []) := by
                    intro n9
                    induction n9 with
                    | zero => intro w_142 hm9; exact absurd hm9 (Nat.not_lt_zero _)
                    | succ n9 ih =>
                      intro w_142 hm9 hL9 H locs hP hD hS ls hl
                      refine lv_iload hx hb dX12_shift_142 (lv_at hl 13 rfl) ?_
                      refine lv_iload_n hx hb dX12_shift_144 rfl (lv_at hl 3 rfl) ?_
                      refine lv_icmp_ge (tgt := 281) hx hb dX12_shift_145 (by decide) (fun c_145 => ?_) (fun c_145 => ?_)
                      · skip
                        have hg9 : (w_142.1, w_142.2.1, w_142.2.2) = g_142 := by rw [← hL9]; simp only [LX12_shift_142]; (try simp only [if_pos c_145])
                        subst hg9
                        exact K_142_0 _ _ hP hD hS ls (lv_sub hl [0, 1, 2, 3, 4, 5, 6, 7, 8, 9, 10, 11, 12, 13] rfl)
                      · skip
                        refine lv_iload hx hb dX12_shift_148 (lv_at hl 6 rfl) ?_
                        have J_275 : ∀ (m_275 : (Int64 × Int32)), m_275 = (if m_58 = 0 then (let m_272 : Int64 := (if m_71 = 0 then (0) else (if m_134 = 0 then (0) else (x_117))); let x_273 := (((w_142.1 : Int64).toUInt64 >>> ((1 : Int32).toInt64.toUInt64 &&& Int64.toUInt64 63)).toInt64 ||| m_272); (x_273, w_142.2.1)) else (if m_71 = 0 then (let m_247 : Int64 := (if m_12 = 0 then (((w_142.1 <<< ((1 : Int32).toInt64 &&& 63)) &&& 4294967295)) else ((w_142.1 <<< ((1 : Int32).toInt64 &&& 63)))); (m_247, w_142.2.1)) else (let m_175 : Int32 := (if (lg_cmp ((w_142.1 &&& ((x_117 : Int64).toUInt64 >>> ((1 : Int32).toInt64.toUInt64 &&& Int64.toUInt64 63)).toInt64)) (0)) = 0 then (0) else (1)); let m_194 : Int32 := (if w_142.2.1 = 0 then (if m_175 = m_134 then (0) else (1)) else (1)); let m_216 : Int64 := (if m_134 = 0 then (0) else (x_117)); let x_217 := (((w_142.1 <<< ((1 : Int32).toInt64 &&& 63)) &&& (x_117 - 1)) ||| m_216); (x_217, m_194)))) → ∀ (H : Heap) (locs : List Loc), va_P D vwCl (wX12_shift cI cB a_mo a_mem a_mks a_mr a_cnt a_wd a_one a_two a_mmade a_mrest a_old v_thrown v_mask v_key v_wait v_problem v_code v_length v_cond v_masks v_addr v_mwanted m_32 v_after v_calls v_oneB v_twoB v_mrF) H → va_D A (wX12_shift cI cB a_mo a_mem a_mks a_mr a_cnt a_wd a_one a_two a_mmade a_mrest a_old v_thrown v_mask v_key v_wait v_problem v_code v_length v_cond v_masks v_addr v_mwanted m_32 v_after v_calls v_oneB v_twoB v_mrF) → va_S A s.heap H locs → ∀ (ls : Array Slot), lv_has ls 17 [(0, .ref a_mo), (1, .int x0), (2, .int x1), (3, .int x2), (4, .int m_12), (5, .int x_43), (6, .int m_58), (7, .int m_71), (8, .int m_85), (9, .long m_275.1), (11, .long x_117), (13, .int m_134), (14, .int m_275.2), (15, .int w_142.2.2)] → W p l e rmX12_shift s m ([.ref a_mo, .int x0, .int x1, .int x2] : List Value).toArray below meth c H locs 0 0 (MQ below (qX12_shift D cI cB a_mo a_mem a_mks a_mr a_cnt a_wd a_one a_two a_mmade a_mrest a_old v_thrown v_mask v_key v_wait v_problem v_code v_length v_cond v_masks v_addr v_mwanted v_wrong v_after v_calls v_oneB v_twoB v_mrF x0 x1 x2 A) ([.ref a_mo, .int x0, .int x1, .int x2] : List Value).toArray s 0 0 A) (F0 m 275 ls []) := by
                          intro m_275 em_275 H locs hP hD hS ls hl
                          try dsimp only at em_275
                          obtain ⟨x_275, ex_275⟩ : ∃ z : Int32, z = w_142.2.2 + 1 := ⟨_, rfl⟩
                          refine lv_iinc (v := x_275) (lv' := [(15, .int x_275), (0, .ref a_mo), (1, .int x0), (2, .int x1), (3, .int x2), (4, .int m_12), (5, .int x_43), (6, .int m_58), (7, .int m_71), (8, .int m_85), (9, .long m_275.1), (11, .long x_117), (13, .int m_134), (14, .int m_275.2)]) hx hb dX12_shift_275 hl (k := 13) rfl (by rw [ex_275]; rfl) (by decide) rfl (fun ls hl => ?_)
                          refine lv_goto (tgt := 142) hx hb dX12_shift_278 (by decide) ?_
                          exact ih (m_275.1, m_275.2, x_275) (by subst ex_275; subst em_275;  exact Nat.lt_of_lt_of_le (ms_up c_145) (Nat.le_of_lt_succ hm9)) (by rw [← hL9]; subst ex_275; simp only [LX12_shift_142, ← em_275]; (try simp only [if_neg c_145])) _ _ hP hD hS ls (lv_sub hl [1, 2, 3, 4, 5, 6, 7, 8, 9, 10, 11, 12, 13, 0] rfl)
                        refine lv_if_eq (tgt := 222) hx hb dX12_shift_150 (by decide) (fun c_150 => ?_) (fun c_150 => ?_)
                        · skip
                          refine lv_iload hx hb dX12_shift_222 (lv_at hl 6 rfl) ?_
                          refine lv_if_eq (tgt := 252) hx hb dX12_shift_224 (by decide) (fun c_224 => ?_) (fun c_224 => ?_)
                          · skip
                            refine lv_lload hx hb dX12_shift_252 (lv_at hl 9 rfl) ?_
                            refine lv_iconst (v := 1) hx hb dX12_shift_254 (by decide) ?_
                            refine lv_lushr hx hb dX12_shift_255 rfl ?_
                            refine lv_iload hx hb dX12_shift_256 (lv_at hl 7 rfl) ?_
                            have J_272 : ∀ (m_272 : Int64), m_272 = (if m_71 = 0 then (0) else (if m_134 = 0 then (0) else (x_117))) → ∀ (H : Heap) (locs : List Loc), va_P D vwCl (wX12_shift cI cB a_mo a_mem a_mks a_mr a_cnt a_wd a_one a_two a_mmade a_mrest a_old v_thrown v_mask v_key v_wait v_problem v_code v_length v_cond v_masks v_addr v_mwanted m_32 v_after v_calls v_oneB v_twoB v_mrF) H → va_D A (wX12_shift cI cB a_mo a_mem a_mks a_mr a_cnt a_wd a_one a_two a_mmade a_mrest a_old v_thrown v_mask v_key v_wait v_problem v_code v_length v_cond v_masks v_addr v_mwanted m_32 v_after v_calls v_oneB v_twoB v_mrF) → va_S A s.heap H locs → ∀ (ls : Array Slot), lv_has ls 17 [(0, .ref a_mo), (1, .int x0), (2, .int x1), (3, .int x2), (4, .int m_12), (5, .int x_43), (6, .int m_58), (7, .int m_71), (8, .int m_85), (9, .long w_142.1), (11, .long x_117), (13, .int m_134), (14, .int w_142.2.1), (15, .int w_142.2.2)] → W p l e rmX12_shift s m ([.ref a_mo, .int x0, .int x1, .int x2] : List Value).toArray below meth c H locs 0 0 (MQ below (qX12_shift D cI cB a_mo a_mem a_mks a_mr a_cnt a_wd a_one a_two a_mmade a_mrest a_old v_thrown v_mask v_key v_wait v_problem v_code v_length v_cond v_masks v_addr v_mwanted v_wrong v_after v_calls v_oneB v_twoB v_mrF x0 x1 x2 A) ([.ref a_mo, .int x0, .int x1, .int x2] : List Value).toArray s 0 0 A) (F0 m 272 ls [.long m_272, .long (((w_142.1 : Int64).toUInt64 >>> ((1 : Int32).toInt64.toUInt64 &&& Int64.toUInt64 63)).toInt64)]) := by
                              intro m_272 em_272 H locs hP hD hS ls hl
                              try dsimp only at em_272
                              refine lv_lor hx hb dX12_shift_272 ?_
                              refine lv_topl (fun x_273 ex_273 => ?_)
                              refine lv_lstore (lv' := [(9, .long x_273), (0, .ref a_mo), (1, .int x0), (2, .int x1), (3, .int x2), (4, .int m_12), (5, .int x_43), (6, .int m_58), (7, .int m_71), (8, .int m_85), (11, .long x_117), (13, .int m_134), (14, .int w_142.2.1), (15, .int w_142.2.2)]) hx hb dX12_shift_273 hl (by decide) rfl (fun ls hl => ?_)
                              exact J_275 (x_273, w_142.2.1) (by subst ex_273; (try simp only [← em_272]); (try simp only [if_pos c_150])) _ _ hP hD hS ls (lv_sub hl [1, 2, 3, 4, 5, 6, 7, 8, 9, 0, 10, 11, 12, 13] rfl)
                            refine lv_if_eq (tgt := 271) hx hb dX12_shift_258 (by decide) (fun c_258 => ?_) (fun c_258 => ?_)
                            · skip
                              refine lv_lconst (v := 0) hx hb dX12_shift_271 (by decide) ?_
                              exact J_272 0 (by (try simp only [if_pos c_258])) _ _ hP hD hS ls (lv_sub hl [0, 1, 2, 3, 4, 5, 6, 7, 8, 9, 10, 11, 12, 13] rfl)
                            · skip
                              refine lv_iload hx hb dX12_shift_261 (lv_at hl 11 rfl) ?_
                              refine lv_if_eq (tgt := 271) hx hb dX12_shift_263 (by decide) (fun c_263 => ?_) (fun c_263 => ?_)
                              · skip
                                refine lv_lconst (v := 0) hx hb dX12_shift_271 (by decide) ?_
                                exact J_272 0 (by (try simp only [if_neg c_258, if_pos c_263])) _ _ hP hD hS ls (lv_sub hl [0, 1, 2, 3, 4, 5, 6, 7, 8, 9, 10, 11, 12, 13] rfl)
                              · skip
                                refine lv_lload hx hb dX12_shift_266 (lv_at hl 10 rfl) ?_
                                refine lv_goto (tgt := 272) hx hb dX12_shift_268 (by decide) ?_
                                exact J_272 x_117 (by (try simp only [if_neg c_258, if_neg c_263])) _ _ hP hD hS ls (lv_sub hl [0, 1, 2, 3, 4, 5, 6, 7, 8, 9, 10, 11, 12, 13] rfl)
                          · skip
                            exact absurd c_150 c_224
                        · skip
                          refine lv_iload hx hb dX12_shift_153 (lv_at hl 7 rfl) ?_
                          refine lv_if_eq (tgt := 222) hx hb dX12_shift_155 (by decide) (fun c_155 => ?_) (fun c_155 => ?_)
                          · skip
                            refine lv_iload hx hb dX12_shift_222 (lv_at hl 6 rfl) ?_
                            refine lv_if_eq (tgt := 252) hx hb dX12_shift_224 (by decide) (fun c_224 => ?_) (fun c_224 => ?_)
                            · skip
                              exact absurd c_224 c_150
                            · skip
                              refine lv_iload hx hb dX12_shift_227 (lv_at hl 4 rfl) ?_
                              have J_247 : ∀ (m_247 : Int64), m_247 = (if m_12 = 0 then (((w_142.1 <<< ((1 : Int32).toInt64 &&& 63)) &&& 4294967295)) else ((w_142.1 <<< ((1 : Int32).toInt64 &&& 63)))) → ∀ (H : Heap) (locs : List Loc), va_P D vwCl (wX12_shift cI cB a_mo a_mem a_mks a_mr a_cnt a_wd a_one a_two a_mmade a_mrest a_old v_thrown v_mask v_key v_wait v_problem v_code v_length v_cond v_masks v_addr v_mwanted m_32 v_after v_calls v_oneB v_twoB v_mrF) H → va_D A (wX12_shift cI cB a_mo a_mem a_mks a_mr a_cnt a_wd a_one a_two a_mmade a_mrest a_old v_thrown v_mask v_key v_wait v_problem v_code v_length v_cond v_masks v_addr v_mwanted m_32 v_after v_calls v_oneB v_twoB v_mrF) → va_S A s.heap H locs → ∀ (ls : Array Slot), lv_has ls 17 [(0, .ref a_mo), (1, .int x0), (2, .int x1), (3, .int x2), (4, .int m_12), (5, .int x_43), (6, .int m_58), (7, .int m_71), (8, .int m_85), (9, .long w_142.1), (11, .long x_117), (13, .int m_134), (14, .int w_142.2.1), (15, .int w_142.2.2)] → W p l e rmX12_shift s m ([.ref a_mo, .int x0, .int x1, .int x2] : List Value).toArray below meth c H locs 0 0 (MQ below (qX12_shift D cI cB a_mo a_mem a_mks a_mr a_cnt a_wd a_one a_two a_mmade a_mrest a_old v_thrown v_mask v_key v_wait v_problem v_code v_length v_cond v_masks v_addr v_mwanted v_wrong v_after v_calls v_oneB v_twoB v_mrF x0 x1 x2 A) ([.ref a_mo, .int x0, .int x1, .int x2] : List Value).toArray s 0 0 A) (F0 m 247 ls [.long m_247]) := by
                                intro m_247 em_247 H locs hP hD hS ls hl
                                try dsimp only at em_247
                                refine lv_lstore (lv' := [(9, .long m_247), (0, .ref a_mo), (1, .int x0), (2, .int x1), (3, .int x2), (4, .int m_12), (5, .int x_43), (6, .int m_58), (7, .int m_71), (8, .int m_85), (11, .long x_117), (13, .int m_134), (14, .int w_142.2.1), (15, .int w_142.2.2)]) hx hb dX12_shift_247 hl (by decide) rfl (fun ls hl => ?_)
                                refine lv_goto (tgt := 275) hx hb dX12_shift_249 (by decide) ?_
                                exact J_275 (m_247, w_142.2.1) (by (try simp only [← em_247]); (try simp only [if_neg c_150, if_pos c_155])) _ _ hP hD hS ls (lv_sub hl [1, 2, 3, 4, 5, 6, 7, 8, 9, 0, 10, 11, 12, 13] rfl)
                              refine lv_if_eq (tgt := 239) hx hb dX12_shift_229 (by decide) (fun c_229 => ?_) (fun c_229 => ?_)
                              · skip
                                refine lv_lload hx hb dX12_shift_239 (lv_at hl 9 rfl) ?_
                                refine lv_iconst (v := 1) hx hb dX12_shift_241 (by decide) ?_
                                refine lv_lshl hx hb dX12_shift_242 rfl ?_
                                refine lv_ldc2 (v := 4294967295) hx hb hown q_2 dX12_shift_243 ?_
                                refine lv_land hx hb dX12_shift_246 ?_
                                exact J_247 ((w_142.1 <<< ((1 : Int32).toInt64 &&& 63)) &&& 4294967295) (by (try simp only [if_pos c_229])) _ _ hP hD hS ls (lv_sub hl [0, 1, 2, 3, 4, 5, 6, 7, 8, 9, 10, 11, 12, 13] rfl)
                              · skip
                                refine lv_lload hx hb dX12_shift_232 (lv_at hl 9 rfl) ?_
                                refine lv_iconst (v := 1) hx hb dX12_shift_234 (by decide) ?_
                                refine lv_lshl hx hb dX12_shift_235 rfl ?_
                                refine lv_goto (tgt := 247) hx hb dX12_shift_236 (by decide) ?_
                                exact J_247 (w_142.1 <<< ((1 : Int32).toInt64 &&& 63)) (by (try simp only [if_neg c_229])) _ _ hP hD hS ls (lv_sub hl [0, 1, 2, 3, 4, 5, 6, 7, 8, 9, 10, 11, 12, 13] rfl)
                          · skip
                            refine lv_lload hx hb dX12_shift_158 (lv_at hl 9 rfl) ?_
                            refine lv_lload hx hb dX12_shift_160 (lv_at hl 10 rfl) ?_
                            refine lv_iconst (v := 1) hx hb dX12_shift_162 (by decide) ?_
                            refine lv_lushr hx hb dX12_shift_163 rfl ?_
                            refine lv_land hx hb dX12_shift_164 ?_
                            refine lv_lconst (v := 0) hx hb dX12_shift_165 (by decide) ?_
                            refine W.lcmp hx hb dX12_shift_166 ?_
                            have J_175 : ∀ (m_175 : Int32), m_175 = (if (lg_cmp ((w_142.1 &&& ((x_117 : Int64).toUInt64 >>> ((1 : Int32).toInt64.toUInt64 &&& Int64.toUInt64 63)).toInt64)) (0)) = 0 then (0) else (1)) → ∀ (H : Heap) (locs : List Loc), va_P D vwCl (wX12_shift cI cB a_mo a_mem a_mks a_mr a_cnt a_wd a_one a_two a_mmade a_mrest a_old v_thrown v_mask v_key v_wait v_problem v_code v_length v_cond v_masks v_addr v_mwanted m_32 v_after v_calls v_oneB v_twoB v_mrF) H → va_D A (wX12_shift cI cB a_mo a_mem a_mks a_mr a_cnt a_wd a_one a_two a_mmade a_mrest a_old v_thrown v_mask v_key v_wait v_problem v_code v_length v_cond v_masks v_addr v_mwanted m_32 v_after v_calls v_oneB v_twoB v_mrF) → va_S A s.heap H locs → ∀ (ls : Array Slot), lv_has ls 17 [(0, .ref a_mo), (1, .int x0), (2, .int x1), (3, .int x2), (4, .int m_12), (5, .int x_43), (6, .int m_58), (7, .int m_71), (8, .int m_85), (9, .long w_142.1), (11, .long x_117), (13, .int m_134), (14, .int w_142.2.1), (15, .int w_142.2.2)] → W p l e rmX12_shift s m ([.ref a_mo, .int x0, .int x1, .int x2] : List Value).toArray below meth c H locs 0 0 (MQ below (qX12_shift D cI cB a_mo a_mem a_mks a_mr a_cnt a_wd a_one a_two a_mmade a_mrest a_old v_thrown v_mask v_key v_wait v_problem v_code v_length v_cond v_masks v_addr v_mwanted v_wrong v_after v_calls v_oneB v_twoB v_mrF x0 x1 x2 A) ([.ref a_mo, .int x0, .int x1, .int x2] : List Value).toArray s 0 0 A) (F0 m 175 ls [.int m_175]) := by
                              intro m_175 em_175 H locs hP hD hS ls hl
                              try dsimp only at em_175
                              have zm_175_0 : m_175 = 0 ∨ m_175 = 1 := by rw [em_175]; (try dsimp only); (repeat' split) <;> first | exact Or.inl rfl | exact Or.inr rfl
                              refine lv_istore (lv' := [(16, .int m_175), (0, .ref a_mo), (1, .int x0), (2, .int x1), (3, .int x2), (4, .int m_12), (5, .int x_43), (6, .int m_58), (7, .int m_71), (8, .int m_85), (9, .long w_142.1), (11, .long x_117), (13, .int m_134), (14, .int w_142.2.1), (15, .int w_142.2.2)]) hx hb dX12_shift_175 hl (by decide) rfl (fun ls hl => ?_)
                              refine lv_iload hx hb dX12_shift_177 (lv_at hl 13 rfl) ?_
                              have J_194 : ∀ (m_194 : Int32), m_194 = (if w_142.2.1 = 0 then (if m_175 = m_134 then (0) else (1)) else (1)) → ∀ (H : Heap) (locs : List Loc), va_P D vwCl (wX12_shift cI cB a_mo a_mem a_mks a_mr a_cnt a_wd a_one a_two a_mmade a_mrest a_old v_thrown v_mask v_key v_wait v_problem v_code v_length v_cond v_masks v_addr v_mwanted m_32 v_after v_calls v_oneB v_twoB v_mrF) H → va_D A (wX12_shift cI cB a_mo a_mem a_mks a_mr a_cnt a_wd a_one a_two a_mmade a_mrest a_old v_thrown v_mask v_key v_wait v_problem v_code v_length v_cond v_masks v_addr v_mwanted m_32 v_after v_calls v_oneB v_twoB v_mrF) → va_S A s.heap H locs → ∀ (ls : Array Slot), lv_has ls 17 [(0, .ref a_mo), (1, .int x0), (2, .int x1), (3, .int x2), (4, .int m_12), (5, .int x_43), (6, .int m_58), (7, .int m_71), (8, .int m_85), (9, .long w_142.1), (11, .long x_117), (13, .int m_134), (14, .int w_142.2.1), (15, .int w_142.2.2), (16, .int m_175)] → W p l e rmX12_shift s m ([.ref a_mo, .int x0, .int x1, .int x2] : List Value).toArray below meth c H locs 0 0 (MQ below (qX12_shift D cI cB a_mo a_mem a_mks a_mr a_cnt a_wd a_one a_two a_mmade a_mrest a_old v_thrown v_mask v_key v_wait v_problem v_code v_length v_cond v_masks v_addr v_mwanted v_wrong v_after v_calls v_oneB v_twoB v_mrF x0 x1 x2 A) ([.ref a_mo, .int x0, .int x1, .int x2] : List Value).toArray s 0 0 A) (F0 m 194 ls [.int m_194]) := by
                                intro m_194 em_194 H locs hP hD hS ls hl
                                try dsimp only at em_194
                                have zm_194_0 : m_194 = 0 ∨ m_194 = 1 := by rw [em_194]; (try dsimp only); (repeat' split) <;> first | exact Or.inl rfl | exact Or.inr rfl
                                refine lv_istore (lv' := [(14, .int m_194), (0, .ref a_mo), (1, .int x0), (2, .int x1), (3, .int x2), (4, .int m_12), (5, .int x_43), (6, .int m_58), (7, .int m_71), (8, .int m_85), (9, .long w_142.1), (11, .long x_117), (13, .int m_134), (15, .int w_142.2.2), (16, .int m_175)]) hx hb dX12_shift_194 hl (by decide) rfl (fun ls hl => ?_)
                                refine lv_lload hx hb dX12_shift_196 (lv_at hl 10 rfl) ?_
                                refine lv_iconst (v := 1) hx hb dX12_shift_198 (by decide) ?_
                                refine lv_lshl hx hb dX12_shift_199 rfl ?_
                                refine lv_lload hx hb dX12_shift_200 (lv_at hl 11 rfl) ?_
                                refine lv_lconst (v := 1) hx hb dX12_shift_202 (by decide) ?_
                                refine lv_lsub hx hb dX12_shift_203 ?_
                                refine lv_land hx hb dX12_shift_204 ?_
                                refine lv_iload hx hb dX12_shift_205 (lv_at hl 12 rfl) ?_
                                have J_216 : ∀ (m_216 : Int64), m_216 = (if m_134 = 0 then (0) else (x_117)) → ∀ (H : Heap) (locs : List Loc), va_P D vwCl (wX12_shift cI cB a_mo a_mem a_mks a_mr a_cnt a_wd a_one a_two a_mmade a_mrest a_old v_thrown v_mask v_key v_wait v_problem v_code v_length v_cond v_masks v_addr v_mwanted m_32 v_after v_calls v_oneB v_twoB v_mrF) H → va_D A (wX12_shift cI cB a_mo a_mem a_mks a_mr a_cnt a_wd a_one a_two a_mmade a_mrest a_old v_thrown v_mask v_key v_wait v_problem v_code v_length v_cond v_masks v_addr v_mwanted m_32 v_after v_calls v_oneB v_twoB v_mrF) → va_S A s.heap H locs → ∀ (ls : Array Slot), lv_has ls 17 [(0, .ref a_mo), (1, .int x0), (2, .int x1), (3, .int x2), (4, .int m_12), (5, .int x_43), (6, .int m_58), (7, .int m_71), (8, .int m_85), (9, .long w_142.1), (11, .long x_117), (13, .int m_134), (14, .int m_194), (15, .int w_142.2.2), (16, .int m_175)] → W p l e rmX12_shift s m ([.ref a_mo, .int x0, .int x1, .int x2] : List Value).toArray below meth c H locs 0 0 (MQ below (qX12_shift D cI cB a_mo a_mem a_mks a_mr a_cnt a_wd a_one a_two a_mmade a_mrest a_old v_thrown v_mask v_key v_wait v_problem v_code v_length v_cond v_masks v_addr v_mwanted v_wrong v_after v_calls v_oneB v_twoB v_mrF x0 x1 x2 A) ([.ref a_mo, .int x0, .int x1, .int x2] : List Value).toArray s 0 0 A) (F0 m 216 ls [.long m_216, .long (((w_142.1 <<< ((1 : Int32).toInt64 &&& 63)) &&& (x_117 - 1)))]) := by
                                  intro m_216 em_216 H locs hP hD hS ls hl
                                  try dsimp only at em_216
                                  refine lv_lor hx hb dX12_shift_216 ?_
                                  refine lv_topl (fun x_217 ex_217 => ?_)
                                  refine lv_lstore (lv' := [(9, .long x_217), (0, .ref a_mo), (1, .int x0), (2, .int x1), (3, .int x2), (4, .int m_12), (5, .int x_43), (6, .int m_58), (7, .int m_71), (8, .int m_85), (11, .long x_117), (13, .int m_134), (14, .int m_194), (15, .int w_142.2.2), (16, .int m_175)]) hx hb dX12_shift_217 hl (by decide) rfl (fun ls hl => ?_)
                                  refine lv_goto (tgt := 275) hx hb dX12_shift_219 (by decide) ?_
                                  exact J_275 (x_217, m_194) (by subst ex_217; (try simp only [← em_175, ← em_194, ← em_216]); (try simp only [if_neg c_150, if_neg c_155])) _ _ hP hD hS ls (lv_sub hl [1, 2, 3, 4, 5, 6, 7, 8, 9, 0, 10, 11, 12, 13] rfl)
                                refine lv_if_eq (tgt := 215) hx hb dX12_shift_207 (by decide) (fun c_207 => ?_) (fun c_207 => ?_)
                                · skip
                                  refine lv_lconst (v := 0) hx hb dX12_shift_215 (by decide) ?_
                                  exact J_216 0 (by (try simp only [if_pos c_207])) _ _ hP hD hS ls (lv_sub hl [1, 2, 3, 4, 5, 6, 7, 8, 9, 10, 11, 12, 0, 13, 14] rfl)
                                · skip
                                  refine lv_lload hx hb dX12_shift_210 (lv_at hl 11 rfl) ?_
                                  refine lv_goto (tgt := 216) hx hb dX12_shift_212 (by decide) ?_
                                  exact J_216 x_117 (by (try simp only [if_neg c_207])) _ _ hP hD hS ls (lv_sub hl [1, 2, 3, 4, 5, 6, 7, 8, 9, 10, 11, 12, 0, 13, 14] rfl)
                              refine lv_if_ne (tgt := 189) hx hb dX12_shift_179 (by decide) (fun c_179 => ?_) (fun c_179 => ?_)
                              · skip
                                refine lv_iconst (v := 1) hx hb dX12_shift_189 (by decide) ?_
                                refine lv_goto (tgt := 194) hx hb dX12_shift_190 (by decide) ?_
                                exact J_194 1 (by (try simp only [if_neg c_179])) _ _ hP hD hS ls (lv_sub hl [1, 2, 3, 4, 5, 6, 7, 8, 9, 10, 11, 12, 13, 14, 0] rfl)
                              · skip
                                refine lv_iload hx hb dX12_shift_182 (lv_at hl 0 rfl) ?_
                                refine lv_iload hx hb dX12_shift_184 (lv_at hl 12 rfl) ?_
                                refine lv_icmp_eq (tgt := 193) hx hb dX12_shift_186 (by decide) (fun c_186 => ?_) (fun c_186 => ?_)
                                · skip
                                  refine lv_iconst (v := 0) hx hb dX12_shift_193 (by decide) ?_
                                  exact J_194 0 (by (try simp only [if_pos c_179, if_pos c_186])) _ _ hP hD hS ls (lv_sub hl [1, 2, 3, 4, 5, 6, 7, 8, 9, 10, 11, 12, 13, 14, 0] rfl)
                                · skip
                                  refine lv_iconst (v := 1) hx hb dX12_shift_189 (by decide) ?_
                                  refine lv_goto (tgt := 194) hx hb dX12_shift_190 (by decide) ?_
                                  exact J_194 1 (by (try simp only [if_pos c_179, if_neg c_186])) _ _ hP hD hS ls (lv_sub hl [1, 2, 3, 4, 5, 6, 7, 8, 9, 10, 11, 12, 13, 14, 0] rfl)
                            refine lv_if_eq (tgt := 174) hx hb dX12_shift_167 (by decide) (fun c_167 => ?_) (fun c_167 => ?_)
                            · skip
                              refine lv_iconst (v := 0) hx hb dX12_shift_174 (by decide) ?_
                              exact J_175 0 (by (try simp only [if_pos c_167])) _ _ hP hD hS ls (lv_sub hl [0, 1, 2, 3, 4, 5, 6, 7, 8, 9, 10, 11, 12, 13] rfl)
                            · skip
                              refine lv_iconst (v := 1) hx hb dX12_shift_170 (by decide) ?_
                              refine lv_goto (tgt := 175) hx hb dX12_shift_171 (by decide) ?_
                              exact J_175 1 (by (try simp only [if_neg c_167])) _ _ hP hD hS ls (lv_sub hl [0, 1, 2, 3, 4, 5, 6, 7, 8, 9, 10, 11, 12, 13] rfl)
                  exact lp_142 (msU x2 0 + 1) (m_109, 0, 0) (Nat.lt_succ_self _) eg_142.symm _ _ hP hD hS ls (lv_sub hl [3, 4, 5, 6, 7, 8, 9, 10, 11, 12, 13, 2, 1, 0] rfl)
                refine lv_if_eq (tgt := 133) hx hb dX12_shift_126 (by decide) (fun c_126 => ?_) (fun c_126 => ?_)
                · skip
                  refine lv_iconst (v := 0) hx hb dX12_shift_133 (by decide) ?_
                  exact J_134 0 (by (try simp only [if_pos c_126])) _ _ hP hD hS ls (lv_sub hl [2, 3, 4, 5, 6, 7, 8, 9, 10, 1, 0] rfl)
                · skip
                  refine lv_iconst (v := 1) hx hb dX12_shift_129 (by decide) ?_
                  refine lv_goto (tgt := 134) hx hb dX12_shift_130 (by decide) ?_
                  exact J_134 1 (by (try simp only [if_neg c_126])) _ _ hP hD hS ls (lv_sub hl [2, 3, 4, 5, 6, 7, 8, 9, 10, 1, 0] rfl)
              refine lv_if_eq (tgt := 100) hx hb dX12_shift_89 (by decide) (fun c_89 => ?_) (fun c_89 => ?_)
              · skip
                refine lv_aload_n hx hb dX12_shift_100 rfl (lv_at hl 1 rfl) ?_
                refine va_get (D := D) (ci := 12) (v := .ref a_mr) (C := RX12) (T := TX12) (N := 26) hx hb hts in_X12 hown hK hP 0 rfl rfl 3 (by decide) q_1 (fun _ h9 => h9) rfl dX12_shift_101 ?_
                refine lv_iload_n hx hb dX12_shift_104 rfl (lv_at hl 3 rfl) ?_
                refine va_iald hx hb hK hP 1 0 rfl rfl (by first | with_reducible assumption | exact vin_of (b := 16) (by decide) (by with_reducible assumption) (by with_reducible assumption) | exact vin_of (b := 16) (by decide) (Int32.not_lt.mp (by with_reducible assumption)) (by with_reducible assumption) | exact vin_dn (by decide) (by with_reducible assumption) hI9) dX12_shift_105 ?_
                have hPc : va_P D vwCl (wX12_plain cI cB  ) H := hP.sub [] rfl
                have hDc : va_D A (wX12_plain cI cB  ) := hD.sub [] (by decide) rfl
                have hFc := va_free (wc := (wX12_plain cI cB  )) hD hS hA [] rfl
                refine va_calll (va_runS (As := [.int ((v_mrF (x1 : Int32).toNatClampNeg))]) (rest := []) ⟨hx, hb, hml, hown, hts⟩ (kX12_plain l D cI cB  H.size  (v_mrF (x1 : Int32).toNatClampNeg)) (va_cwS 1 hts (gd_S wd_865 wd_866 wd_807 wd_846) rfl rfl rfl hdX12_plain.2 ⟨Nat.le_of_ble_eq_true rfl, Nat.le_of_ble_eq_true rfl⟩) (preS_std hPc hK hDc hNW) rfl rfl hl.1 rfl (lv_room (Nat.le_of_ble_eq_true rfl)) dX12_shift_106 ⟨Nat.zero_le _, Nat.zero_le _⟩) hS (fun q _ h => hFc q h) hFc (fun r_106 u_106 t9 H1 locs ht9 hvm9 hw9 hB9 hz9 hk9 hS => ?_)
                have er_106 : r_106 = fX12_plain (v_mrF (x1 : Int32).toNatClampNeg) := hw9
                obtain ⟨hP, hD⟩ := back_std (w1 := (wX12_plain cI cB  )) (w2 := (wX12_shift cI cB a_mo a_mem a_mks a_mr a_cnt a_wd a_one a_two a_mmade a_mrest a_old v_thrown v_mask v_key v_wait v_problem v_code v_length v_cond v_masks v_addr v_mwanted m_32 v_after v_calls v_oneB v_twoB v_mrF)) (wr := [(a_mo, .inr (12, [.int v_thrown, .ref a_mem, .ref a_mks, .ref a_mr, .int v_mask, .int v_key, .int v_wait, .int v_problem, .int v_code, .int v_length, .int v_cond, .int v_masks, .int v_addr, .int v_mwanted, .ref a_cnt, .ref a_wd, .int m_32, .int v_after, .int v_calls, .ref a_one, .int v_oneB, .ref a_two, .int v_twoB, .ref a_mmade, .ref a_mrest, .ref a_old])), (a_mr, .inl (cI, 16, .inl v_mrF))]) hP hD [] [0, 1] [0, 1] rfl rfl (by decide) (by decide) hk9 hFc hB9 ht9 (by decide) rfl
                clear hB9 hk9 hz9 hvm9 ht9 hFc hPc hDc
                generalize H1 = H at hP hS ⊢
                exact J_109 r_106 (by (try simp only [← er_106]); (try simp only [if_pos c_89])) _ _ hP hD hS ls (lv_sub hl [1, 2, 3, 4, 5, 6, 7, 8, 0] rfl)
              · skip
                refine lv_aload_n hx hb dX12_shift_92 rfl (lv_at hl 1 rfl) ?_
                refine lv_iload_n hx hb dX12_shift_93 rfl (lv_at hl 3 rfl) ?_
                have hPc : va_P D vwCl (wX12_pair cI cB a_mo a_mem a_mks a_mr a_cnt a_wd a_one a_two a_mmade a_mrest a_old v_thrown v_mask v_key v_wait v_problem v_code v_length v_cond v_masks v_addr v_mwanted m_32 v_after v_calls v_oneB v_twoB v_mrF) H := hP.sub [0, 1] rfl
                have hDc : va_D A (wX12_pair cI cB a_mo a_mem a_mks a_mr a_cnt a_wd a_one a_two a_mmade a_mrest a_old v_thrown v_mask v_key v_wait v_problem v_code v_length v_cond v_masks v_addr v_mwanted m_32 v_after v_calls v_oneB v_twoB v_mrF) := hD.sub [0, 1] (by decide) rfl
                have hFc := va_free (wc := (wX12_pair cI cB a_mo a_mem a_mks a_mr a_cnt a_wd a_one a_two a_mmade a_mrest a_old v_thrown v_mask v_key v_wait v_problem v_code v_length v_cond v_masks v_addr v_mwanted m_32 v_after v_calls v_oneB v_twoB v_mrF)) hD hS hA [0, 1] rfl
                refine va_calll (va_runV (As := [.int x1]) (rest := []) ⟨hx, hb, hml, hown, hts⟩ (kX12_pair l D cI cB a_mo a_mem a_mks a_mr a_cnt a_wd a_one a_two a_mmade a_mrest a_old H.size v_thrown v_mask v_key v_wait v_problem v_code v_length v_cond v_masks v_addr v_mwanted m_32 v_after v_calls v_oneB v_twoB v_mrF x1 (sh_e hk hw em_32 c_36 c_89)) (cwV 1 hts (gd_V wd_871 wd_872 wd_873 wd_807 wd_864) rfl rfl rfl hdX12_pair ⟨Nat.le_of_ble_eq_true rfl, Nat.le_of_ble_eq_true rfl⟩) (preV_std (ci := 12) (q0 := 0) hPc hK hDc hNW rfl rfl) rfl rfl hl.1 rfl (lv_room (Nat.le_of_ble_eq_true rfl)) dX12_shift_94 ⟨Nat.zero_le _, Nat.zero_le _⟩) hS (fun q _ h => hFc q h) hFc (fun r_94 u_94 t9 H1 locs ht9 hvm9 hw9 hB9 hz9 hk9 hS => ?_)
                have er_94 : r_94 = fX12_pair x1 v_mrF := hw9
                obtain ⟨hP, hD⟩ := back_std (w1 := (wX12_pair cI cB a_mo a_mem a_mks a_mr a_cnt a_wd a_one a_two a_mmade a_mrest a_old v_thrown v_mask v_key v_wait v_problem v_code v_length v_cond v_masks v_addr v_mwanted m_32 v_after v_calls v_oneB v_twoB v_mrF)) (w2 := (wX12_shift cI cB a_mo a_mem a_mks a_mr a_cnt a_wd a_one a_two a_mmade a_mrest a_old v_thrown v_mask v_key v_wait v_problem v_code v_length v_cond v_masks v_addr v_mwanted m_32 v_after v_calls v_oneB v_twoB v_mrF)) (wr := []) hP hD [0, 1] [] [0, 1] rfl rfl (by decide) (by decide) hk9 hFc hB9 ht9 (by decide) rfl
                clear hB9 hk9 hz9 hvm9 ht9 hFc hPc hDc
                generalize H1 = H at hP hS ⊢
                refine lv_goto (tgt := 109) hx hb dX12_shift_97 (by decide) ?_
                exact J_109 r_94 (by (try simp only [← er_94]); (try simp only [if_neg c_89])) _ _ hP hD hS ls (lv_sub hl [1, 2, 3, 4, 5, 6, 7, 8, 0] rfl)
            refine lv_if_eq (tgt := 83) hx hb dX12_shift_75 (by decide) (fun c_75 => ?_) (fun c_75 => ?_)
            · skip
              refine lv_bipush (v := 32) hx hb dX12_shift_83 (by decide) ?_
              exact J_85 32 (by (try simp only [if_pos c_75])) _ _ hP hD hS ls (lv_sub hl [1, 2, 3, 4, 5, 6, 7, 0] rfl)
            · skip
              refine lv_bipush (v := 64) hx hb dX12_shift_78 (by decide) ?_
              refine lv_goto (tgt := 85) hx hb dX12_shift_80 (by decide) ?_
              exact J_85 64 (by (try simp only [if_neg c_75])) _ _ hP hD hS ls (lv_sub hl [1, 2, 3, 4, 5, 6, 7, 0] rfl)
          refine lv_icmp_le (tgt := 70) hx hb dX12_shift_63 (by decide) (fun c_63 => ?_) (fun c_63 => ?_)
          · skip
            refine lv_iconst (v := 0) hx hb dX12_shift_70 (by decide) ?_
            exact J_71 0 (by (try simp only [if_pos c_63])) _ _ hP hD hS ls (lv_sub hl [1, 2, 3, 4, 5, 6, 0] rfl)
          · skip
            refine lv_iconst (v := 1) hx hb dX12_shift_66 (by decide) ?_
            refine lv_goto (tgt := 71) hx hb dX12_shift_67 (by decide) ?_
            exact J_71 1 (by (try simp only [if_neg c_63])) _ _ hP hD hS ls (lv_sub hl [1, 2, 3, 4, 5, 6, 0] rfl)
        refine lv_icmp_ne (tgt := 57) hx hb dX12_shift_50 (by decide) (fun c_50 => ?_) (fun c_50 => ?_)
        · skip
          refine lv_iconst (v := 0) hx hb dX12_shift_57 (by decide) ?_
          exact J_58 0 (by (try simp only [if_neg c_50])) _ _ hP hD hS ls (lv_sub hl [1, 2, 3, 4, 5, 0] rfl)
        · skip
          refine lv_iconst (v := 1) hx hb dX12_shift_53 (by decide) ?_
          refine lv_goto (tgt := 58) hx hb dX12_shift_54 (by decide) ?_
          exact J_58 1 (by (try simp only [if_pos c_50])) _ _ hP hD hS ls (lv_sub hl [1, 2, 3, 4, 5, 0] rfl)
      · skip
        have hf9 : (v_cond, m_32, v_after, v_mrF) = fX12_shift x0 x1 x2 v_cond v_masks v_wrong v_after v_mrF := by simp only [fX12_shift, ← em_12, ← em_32]; (try simp only [if_neg c_36])
        exact W.vret hx hb hr (fun t9 ht9 hW9 => ⟨⟨(v_cond, m_32, v_after, v_mrF), rfl, hf9, ⟨by rw [ht9]; exact hP, va_K.moved hW9.alike hK, hD⟩⟩, hS.F ht9⟩) hS.2.2 dX12_shift_39
    refine lv_if_eq (tgt := 32) hx hb dX12_shift_16 (by decide) (fun c_16 => ?_) (fun c_16 => ?_)
    · skip
      exact J_32 v_wrong (by (try simp only [if_pos c_16])) _ _ hP hD hS ls (lv_sub hl [1, 2, 3, 4, 0] rfl)
    · skip
      refine lv_iload_n hx hb dX12_shift_19 rfl (lv_at hl 3 rfl) ?_
      refine lv_iconst (v := 2) hx hb dX12_shift_20 (by decide) ?_
      refine lv_irem hx hb dX12_shift_21 (by decide) ?_
      refine lv_iconst (v := 1) hx hb dX12_shift_22 (by decide) ?_
      refine lv_icmp_ne (tgt := 32) hx hb dX12_shift_23 (by decide) (fun c_23 => ?_) (fun c_23 => ?_)
      · skip
        exact J_32 v_wrong (by (try simp only [if_neg c_16, if_neg c_23])) _ _ hP hD hS ls (lv_sub hl [1, 2, 3, 4, 0] rfl)
      · skip
        refine lv_aload_n hx hb dX12_shift_26 rfl (lv_at hl 1 rfl) ?_
        refine lv_bipush (v := 6) hx hb dX12_shift_27 (by decide) ?_
        have hPc : va_P D vwCl (wX12_meet cI cB a_mo a_mem a_mks a_mr a_cnt a_wd a_one a_two a_mmade a_mrest a_old v_thrown v_mask v_key v_wait v_problem v_code v_length v_cond v_masks v_addr v_mwanted v_wrong v_after v_calls v_oneB v_twoB) H := hP.sub [0] rfl
        have hDc : va_D A (wX12_meet cI cB a_mo a_mem a_mks a_mr a_cnt a_wd a_one a_two a_mmade a_mrest a_old v_thrown v_mask v_key v_wait v_problem v_code v_length v_cond v_masks v_addr v_mwanted v_wrong v_after v_calls v_oneB v_twoB) := hD.sub [0] (by decide) rfl
        have hFc := va_free (wc := (wX12_meet cI cB a_mo a_mem a_mks a_mr a_cnt a_wd a_one a_two a_mmade a_mrest a_old v_thrown v_mask v_key v_wait v_problem v_code v_length v_cond v_masks v_addr v_mwanted v_wrong v_after v_calls v_oneB v_twoB)) hD hS hA [0] rfl
        refine va_callv (va_runV (As := [.int 6]) (rest := []) ⟨hx, hb, hml, hown, hts⟩ (kX12_meet l D cI cB a_mo a_mem a_mks a_mr a_cnt a_wd a_one a_two a_mmade a_mrest a_old H.size v_thrown v_mask v_key v_wait v_problem v_code v_length v_cond v_masks v_addr v_mwanted v_wrong v_after v_calls v_oneB v_twoB 6) (cwV 1 hts (gd_V wd_838 wd_839 wd_840 wd_807 wd_835) rfl rfl rfl hdX12_meet ⟨Nat.le_of_ble_eq_true rfl, Nat.le_of_ble_eq_true rfl⟩) (preV_std (ci := 12) (q0 := 0) hPc hK hDc hNW rfl rfl) rfl rfl hl.1 rfl (lv_room (Nat.le_of_ble_eq_true rfl)) dX12_shift_29 ⟨Nat.zero_le _, Nat.zero_le _⟩) hS (fun q _ h => hFc q h) hFc (fun u_29 t9 H1 locs ht9 hvm9 hw9 hB9 hz9 hk9 hS => ?_)
        have eu_29 : u_29 = fX12_meet 6 v_wrong := hw9
        obtain ⟨hP, hD⟩ := back_std (w1 := (wX12_meet cI cB a_mo a_mem a_mks a_mr a_cnt a_wd a_one a_two a_mmade a_mrest a_old v_thrown v_mask v_key v_wait v_problem v_code v_length v_cond v_masks v_addr v_mwanted u_29 v_after v_calls v_oneB v_twoB)) (w2 := (wX12_shift cI cB a_mo a_mem a_mks a_mr a_cnt a_wd a_one a_two a_mmade a_mrest a_old v_thrown v_mask v_key v_wait v_problem v_code v_length v_cond v_masks v_addr v_mwanted u_29 v_after v_calls v_oneB v_twoB v_mrF)) (wr := [(a_mr, .inl (cI, 16, .inl v_mrF))]) hP hD [0] [1] [1, 0] rfl rfl (by decide) (by decide) hk9 hFc hB9 ht9 (by decide) rfl
        clear hB9 hk9 hz9 hvm9 ht9 hFc hPc hDc
        generalize H1 = H at hP hS ⊢
        exact J_32 u_29 (by (try simp only [← eu_29]); (try simp only [if_neg c_16, if_pos c_23])) _ _ hP hD hS ls (lv_sub hl [1, 2, 3, 4, 0] rfl)
  refine lv_icmp_lt (tgt := 11) hx hb dX12_shift_4 (by decide) (fun c_4 => ?_) (fun c_4 => ?_)
  · skip
    refine lv_iconst (v := 0) hx hb dX12_shift_11 (by decide) ?_
    exact J_12 0 (by (try simp only [if_pos c_4])) _ _ hP hD hS ls (lv_sub hl [0, 1, 2, 3] rfl)
  · skip
    refine lv_iconst (v := 1) hx hb dX12_shift_7 (by decide) ?_
    refine lv_goto (tgt := 12) hx hb dX12_shift_8 (by decide) ?_
    exact J_12 1 (by (try simp only [if_neg c_4])) _ _ hP hD hS ls (lv_sub hl [0, 1, 2, 3] rfl)
theorem hdX12_shift : yX12_shift.cls = RX12 ∧ yX12_shift.cls ≠ "java/lang/invoke/MethodHandle" ∧ yX12_shift.cls ≠ "java/lang/invoke/VarHandle" ∧ (parseMethodDescriptor yX12_shift.desc).map (fun d => d.parameters.length) = some 3 := by decide +kernel
noncomputable def fX12_loop (x0 : Int32) (x1 : Int32) (x2 : Int32) (x3 : Int32) (v_addr : Int32) (v_mrF : (Nat → Int32)) : (Int32 × (Nat → Int32)) :=
  let x_6 := (v_mrF (x2 : Int32).toNatClampNeg)
  let m_28 : Int32 := (if (x2 - x2 / 2 * 2) = 1 then (x_6) else ((v_mrF ((x2 + 1) : Int32).toNatClampNeg)))
  let f_44 := upd v_mrF (x1 : Int32).toNatClampNeg (((v_mrF (x1 : Int32).toNatClampNeg) + x_6))
  let m_57 : Int32 := (if x0 = 134 then (1) else (0))
  let m_73 : Int32 := (if (f_44 (x1 : Int32).toNatClampNeg) ≤ m_28 then (0) else (1))
  if m_57 = m_73 then (let u_79 := fX12_branchTo x3 v_addr; (u_79, f_44)) else ((v_addr, f_44))
abbrev wX12_loop (cI cB : ClassId) (a_mo a_mem a_mks a_mr a_cnt a_wd a_one a_two a_mmade a_mrest a_old : Nat) (v_thrown : Int32) (v_mask : Int32) (v_key : Int32) (v_wait : Int32) (v_problem : Int32) (v_code : Int32) (v_length : Int32) (v_cond : Int32) (v_masks : Int32) (v_addr : Int32) (v_mwanted : Int32) (v_wrong : Int32) (v_after : Int32) (v_calls : Int32) (v_oneB : Int32) (v_twoB : Int32) (v_mrF : (Nat → Int32)) : va_W := [(a_mo, .inr (12, [.int v_thrown, .ref a_mem, .ref a_mks, .ref a_mr, .int v_mask, .int v_key, .int v_wait, .int v_problem, .int v_code, .int v_length, .int v_cond, .int v_masks, .int v_addr, .int v_mwanted, .ref a_cnt, .ref a_wd, .int v_wrong, .int v_after, .int v_calls, .ref a_one, .int v_oneB, .ref a_two, .int v_twoB, .ref a_mmade, .ref a_mrest, .ref a_old])), (a_mr, .inl (cI, 16, .inl v_mrF))]
abbrev rmX12_loop : Room := { frames := 1, cells := 0, slots := 0, locals := 21 }
abbrev qX12_loop (D : va_G) (cI cB : ClassId) (a_mo a_mem a_mks a_mr a_cnt a_wd a_one a_two a_mmade a_mrest a_old : Nat) (v_thrown : Int32) (v_mask : Int32) (v_key : Int32) (v_wait : Int32) (v_problem : Int32) (v_code : Int32) (v_length : Int32) (v_cond : Int32) (v_masks : Int32) (v_addr : Int32) (v_mwanted : Int32) (v_wrong : Int32) (v_after : Int32) (v_calls : Int32) (v_oneB : Int32) (v_twoB : Int32) (v_mrF : (Nat → Int32)) (x0 : Int32) (x1 : Int32) (x2 : Int32) (x3 : Int32) : (Nat → Prop) → Array Value → State → Outcome → State → Prop := fun A9 => va_Qv (fun (u9 : (Int32 × (Nat → Int32))) => u9 = fX12_loop x0 x1 x2 x3 v_addr v_mrF) (fun u9 t9 => atW D (TYS cI cB) A9 (wX12_loop cI cB a_mo a_mem a_mks a_mr a_cnt a_wd a_one a_two a_mmade a_mrest a_old v_thrown v_mask v_key v_wait v_problem v_code v_length v_cond v_masks u9.1 v_mwanted v_wrong v_after v_calls v_oneB v_twoB u9.2) t9) A9
set_option maxHeartbeats 4000000 in
set_option maxRecDepth 100000 in
theorem kX12_loop (l : Launch) (D : va_G) (cI cB : ClassId) (a_mo a_mem a_mks a_mr a_cnt a_wd a_one a_two a_mmade a_mrest a_old : Nat) (sz : Nat) (v_thrown : Int32) (v_mask : Int32) (v_key : Int32) (v_wait : Int32) (v_problem : Int32) (v_code : Int32) (v_length : Int32) (v_cond : Int32) (v_masks : Int32) (v_addr : Int32) (v_mwanted : Int32) (v_wrong : Int32) (v_after : Int32) (v_calls : Int32) (v_oneB : Int32) (v_twoB : Int32) (v_mrF : (Nat → Int32)) (x0 : Int32) (x1 : Int32) (x2 : Int32) (x3 : Int32) (hk : vp_in x1 16) (hs : vp_in x2 16) : MetW l yX12_loop (WK yX12_loop cX12_loop 7 none) rmX12_loop D (TYS cI cB) (wX12_loop cI cB a_mo a_mem a_mks a_mr a_cnt a_wd a_one a_two a_mmade a_mrest a_old v_thrown v_mask v_key v_wait v_problem v_code v_length v_cond v_masks v_addr v_mwanted v_wrong v_after v_calls v_oneB v_twoB v_mrF) sz [.ref a_mo, .int x0, .int x1, .int x2, .int x3] (qX12_loop D cI cB a_mo a_mem a_mks a_mr a_cnt a_wd a_one a_two a_mmade a_mrest a_old v_thrown v_mask v_key v_wait v_problem v_code v_length v_cond v_masks v_addr v_mwanted v_wrong v_after v_calls v_oneB v_twoB v_mrF x0 x1 x2 x3) 0 0 := by
  refine met_std (by decide) rfl (Nat.le_of_ble_eq_true rfl) ?_
  intro p e s m below meth c A ls H hx hb hr hml hown hts hlocks hA hP hK hD hS hNW hl
  have hl : lv_has ls 7 [(0, .ref a_mo), (1, .int x0), (2, .int x1), (3, .int x2), (4, .int x3)] := hl
  have q_0 := hts _ (List.mem_cons_of_mem _ wd_779)
  refine lv_aload_n hx hb dX12_loop_0 rfl (lv_at hl 0 rfl) ?_
  refine va_get (D := D) (ci := 12) (v := .ref a_mr) (C := RX12) (T := TX12) (N := 26) hx hb hts in_X12 hown hK hP 0 rfl rfl 3 (by decide) q_0 (fun _ h9 => h9) rfl dX12_loop_1 ?_
  refine lv_iload_n hx hb dX12_loop_4 rfl (lv_at hl 3 rfl) ?_
  refine va_iald hx hb hK hP 1 0 rfl rfl (by first | with_reducible assumption | exact vin_of (b := 16) (by decide) (by with_reducible assumption) (by with_reducible assumption) | exact vin_of (b := 16) (by decide) (Int32.not_lt.mp (by with_reducible assumption)) (by with_reducible assumption) | exact vin_dn (by decide) (by with_reducible assumption) hI9) dX12_loop_5 ?_
  refine lv_topi (fun x_6 ex_6 => ?_)
  refine lv_istore (lv' := [(5, .int x_6), (0, .ref a_mo), (1, .int x0), (2, .int x1), (3, .int x2), (4, .int x3)]) hx hb dX12_loop_6 hl (by decide) rfl (fun ls hl => ?_)
  refine lv_iload_n hx hb dX12_loop_8 rfl (lv_at hl 4 rfl) ?_
  refine lv_iconst (v := 2) hx hb dX12_loop_9 (by decide) ?_
  refine lv_irem hx hb dX12_loop_10 (by decide) ?_
  refine lv_iconst (v := 1) hx hb dX12_loop_11 (by decide) ?_
  have J_28 : ∀ (m_28 : Int32), m_28 = (if (x2 - x2 / 2 * 2) = 1 then (x_6) else ((v_mrF ((x2 + 1) : Int32).toNatClampNeg))) → ∀ (H : Heap) (locs : List Loc), va_P D vwCl (wX12_loop cI cB a_mo a_mem a_mks a_mr a_cnt a_wd a_one a_two a_mmade a_mrest a_old v_thrown v_mask v_key v_wait v_problem v_code v_length v_cond v_masks v_addr v_mwanted v_wrong v_after v_calls v_oneB v_twoB v_mrF) H → va_D A (wX12_loop cI cB a_mo a_mem a_mks a_mr a_cnt a_wd a_one a_two a_mmade a_mrest a_old v_thrown v_mask v_key v_wait v_problem v_code v_length v_cond v_masks v_addr v_mwanted v_wrong v_after v_calls v_oneB v_twoB v_mrF) → va_S A s.heap H locs → ∀ (ls : Array Slot), lv_has ls 7 [(0, .ref a_mo), (1, .int x0), (2, .int x1), (3, .int x2), (4, .int x3), (5, .int x_6)] → W p l e rmX12_loop s m ([.ref a_mo, .int x0, .int x1, .int x2, .int x3] : List Value).toArray below meth c H locs 0 0 (MQ below (qX12_loop D cI cB a_mo a_mem a_mks a_mr a_cnt a_wd a_one a_two a_mmade a_mrest a_old v_thrown v_mask v_key v_wait v_problem v_code v_length v_cond v_masks v_addr v_mwanted v_wrong v_after v_calls v_oneB v_twoB v_mrF x0 x1 x2 x3 A) ([.ref a_mo, .int x0, .int x1, .int x2, .int x3] : List Value).toArray s 0 0 A) (F0 m 28 ls [.int m_28]) := by
    intro m_28 em_28 H locs hP hD hS ls hl
    try dsimp only at em_28
    refine lv_istore (lv' := [(6, .int m_28), (0, .ref a_mo), (1, .int x0), (2, .int x1), (3, .int x2), (4, .int x3), (5, .int x_6)]) hx hb dX12_loop_28 hl (by decide) rfl (fun ls hl => ?_)
    refine lv_aload_n hx hb dX12_loop_30 rfl (lv_at hl 1 rfl) ?_
    refine va_get (D := D) (ci := 12) (v := .ref a_mr) (C := RX12) (T := TX12) (N := 26) hx hb hts in_X12 hown hK hP 0 rfl rfl 3 (by decide) q_0 (fun _ h9 => h9) rfl dX12_loop_31 ?_
    refine lv_iload_n hx hb dX12_loop_34 rfl (lv_at hl 3 rfl) ?_
    refine lv_aload_n hx hb dX12_loop_35 rfl (lv_at hl 1 rfl) ?_
    refine va_get (D := D) (ci := 12) (v := .ref a_mr) (C := RX12) (T := TX12) (N := 26) hx hb hts in_X12 hown hK hP 0 rfl rfl 3 (by decide) q_0 (fun _ h9 => h9) rfl dX12_loop_36 ?_
    refine lv_iload_n hx hb dX12_loop_39 rfl (lv_at hl 3 rfl) ?_
    refine va_iald hx hb hK hP 1 0 rfl rfl (by first | with_reducible assumption | exact vin_of (b := 16) (by decide) (by with_reducible assumption) (by with_reducible assumption) | exact vin_of (b := 16) (by decide) (Int32.not_lt.mp (by with_reducible assumption)) (by with_reducible assumption) | exact vin_dn (by decide) (by with_reducible assumption) hI9) dX12_loop_40 ?_
    refine lv_iload hx hb dX12_loop_41 (lv_at hl 6 rfl) ?_
    refine lv_iadd hx hb dX12_loop_43 ?_
    refine va_iast hx hb hK hP hD hS 1 0 rfl rfl (by first | with_reducible assumption | exact vin_of (b := 16) (by decide) (by with_reducible assumption) (by with_reducible assumption) | exact vin_of (b := 16) (by decide) (Int32.not_lt.mp (by with_reducible assumption)) (by with_reducible assumption) | exact vin_dn (by decide) (by with_reducible assumption) hI9) dX12_loop_44 (fun H locs hP hD hS => ?_)
    obtain ⟨f_44, ef_44⟩ : ∃ z : Nat → Int32, z = upd v_mrF (x1 : Int32).toNatClampNeg (((v_mrF (x1 : Int32).toNatClampNeg) + x_6)) := ⟨_, rfl⟩
    have hP : va_P D vwCl (wX12_loop cI cB a_mo a_mem a_mks a_mr a_cnt a_wd a_one a_two a_mmade a_mrest a_old v_thrown v_mask v_key v_wait v_problem v_code v_length v_cond v_masks v_addr v_mwanted v_wrong v_after v_calls v_oneB v_twoB (upd v_mrF (x1 : Int32).toNatClampNeg (((v_mrF (x1 : Int32).toNatClampNeg) + x_6)))) H := hP
    have hD : va_D A (wX12_loop cI cB a_mo a_mem a_mks a_mr a_cnt a_wd a_one a_two a_mmade a_mrest a_old v_thrown v_mask v_key v_wait v_problem v_code v_length v_cond v_masks v_addr v_mwanted v_wrong v_after v_calls v_oneB v_twoB (upd v_mrF (x1 : Int32).toNatClampNeg (((v_mrF (x1 : Int32).toNatClampNeg) + x_6)))) := hD
    rw [← ef_44] at hP hD
    refine lv_iload_n hx hb dX12_loop_45 rfl (lv_at hl 2 rfl) ?_
    refine lv_sipush (v := 134) hx hb dX12_loop_46 (by decide) ?_
    have J_57 : ∀ (m_57 : Int32), m_57 = (if x0 = 134 then (1) else (0)) → ∀ (H : Heap) (locs : List Loc), va_P D vwCl (wX12_loop cI cB a_mo a_mem a_mks a_mr a_cnt a_wd a_one a_two a_mmade a_mrest a_old v_thrown v_mask v_key v_wait v_problem v_code v_length v_cond v_masks v_addr v_mwanted v_wrong v_after v_calls v_oneB v_twoB f_44) H → va_D A (wX12_loop cI cB a_mo a_mem a_mks a_mr a_cnt a_wd a_one a_two a_mmade a_mrest a_old v_thrown v_mask v_key v_wait v_problem v_code v_length v_cond v_masks v_addr v_mwanted v_wrong v_after v_calls v_oneB v_twoB f_44) → va_S A s.heap H locs → ∀ (ls : Array Slot), lv_has ls 7 [(0, .ref a_mo), (1, .int x0), (2, .int x1), (3, .int x2), (4, .int x3), (5, .int x_6), (6, .int m_28)] → W p l e rmX12_loop s m ([.ref a_mo, .int x0, .int x1, .int x2, .int x3] : List Value).toArray below meth c H locs 0 0 (MQ below (qX12_loop D cI cB a_mo a_mem a_mks a_mr a_cnt a_wd a_one a_two a_mmade a_mrest a_old v_thrown v_mask v_key v_wait v_problem v_code v_length v_cond v_masks v_addr v_mwanted v_wrong v_after v_calls v_oneB v_twoB v_mrF x0 x1 x2 x3 A) ([.ref a_mo, .int x0, .int x1, .int x2, .int x3] : List Value).toArray s 0 0 A) (F0 m 57 ls [.int m_57]) := by
      intro m_57 em_57 H locs hP hD hS ls hl
      try dsimp only at em_57
      have zm_57_0 : m_57 = 0 ∨ m_57 = 1 := by rw [em_57]; (try dsimp only); (repeat' split) <;> first | exact Or.inl rfl | exact Or.inr rfl
      refine lv_aload_n hx hb dX12_loop_57 rfl (lv_at hl 0 rfl) ?_
      refine va_get (D := D) (ci := 12) (v := .ref a_mr) (C := RX12) (T := TX12) (N := 26) hx hb hts in_X12 hown hK hP 0 rfl rfl 3 (by decide) q_0 (fun _ h9 => h9) rfl dX12_loop_58 ?_
      refine lv_iload_n hx hb dX12_loop_61 rfl (lv_at hl 2 rfl) ?_
      refine va_iald hx hb hK hP 1 0 rfl rfl (by first | with_reducible assumption | exact vin_of (b := 16) (by decide) (by with_reducible assumption) (by with_reducible assumption) | exact vin_of (b := 16) (by decide) (Int32.not_lt.mp (by with_reducible assumption)) (by with_reducible assumption) | exact vin_dn (by decide) (by with_reducible assumption) hI9) dX12_loop_62 ?_
      refine lv_iload hx hb dX12_loop_63 (lv_at hl 6 rfl) ?_
      have J_73 : ∀ (m_73 : Int32), m_73 = (if (f_44 (x1 : Int32).toNatClampNeg) ≤ m_28 then (0) else (1)) → ∀ (H : Heap) (locs : List Loc), va_P D vwCl (wX12_loop cI cB a_mo a_mem a_mks a_mr a_cnt a_wd a_one a_two a_mmade a_mrest a_old v_thrown v_mask v_key v_wait v_problem v_code v_length v_cond v_masks v_addr v_mwanted v_wrong v_after v_calls v_oneB v_twoB f_44) H → va_D A (wX12_loop cI cB a_mo a_mem a_mks a_mr a_cnt a_wd a_one a_two a_mmade a_mrest a_old v_thrown v_mask v_key v_wait v_problem v_code v_length v_cond v_masks v_addr v_mwanted v_wrong v_after v_calls v_oneB v_twoB f_44) → va_S A s.heap H locs → ∀ (ls : Array Slot), lv_has ls 7 [(0, .ref a_mo), (1, .int x0), (2, .int x1), (3, .int x2), (4, .int x3), (5, .int x_6), (6, .int m_28)] → W p l e rmX12_loop s m ([.ref a_mo, .int x0, .int x1, .int x2, .int x3] : List Value).toArray below meth c H locs 0 0 (MQ below (qX12_loop D cI cB a_mo a_mem a_mks a_mr a_cnt a_wd a_one a_two a_mmade a_mrest a_old v_thrown v_mask v_key v_wait v_problem v_code v_length v_cond v_masks v_addr v_mwanted v_wrong v_after v_calls v_oneB v_twoB v_mrF x0 x1 x2 x3 A) ([.ref a_mo, .int x0, .int x1, .int x2, .int x3] : List Value).toArray s 0 0 A) (F0 m 73 ls [.int m_73, .int m_57]) := by
        intro m_73 em_73 H locs hP hD hS ls hl
        try dsimp only at em_73
        have zm_73_0 : m_73 = 0 ∨ m_73 = 1 := by rw [em_73]; (try dsimp only); (repeat' split) <;> first | exact Or.inl rfl | exact Or.inr rfl
        refine lv_icmp_ne (tgt := 82) hx hb dX12_loop_73 (by decide) (fun c_73 => ?_) (fun c_73 => ?_)
        · skip
          have hf9 : (v_addr, f_44) = fX12_loop x0 x1 x2 x3 v_addr v_mrF := by subst ef_44; subst ex_6; simp only [fX12_loop, ← em_28, ← em_57, ← em_73]; (try simp only [if_neg c_73])
          exact W.vret hx hb hr (fun t9 ht9 hW9 => ⟨⟨(v_addr, f_44), rfl, hf9, ⟨by rw [ht9]; exact hP, va_K.moved hW9.alike hK, hD⟩⟩, hS.F ht9⟩) hS.2.2 dX12_loop_82
        · skip
          refine lv_aload_n hx hb dX12_loop_76 rfl (lv_at hl 0 rfl) ?_
          refine lv_iload hx hb dX12_loop_77 (lv_at hl 4 rfl) ?_
          have hPc : va_P D vwCl (wX12_branchTo cI cB a_mo a_mem a_mks a_mr a_cnt a_wd a_one a_two a_mmade a_mrest a_old v_thrown v_mask v_key v_wait v_problem v_code v_length v_cond v_masks v_addr v_mwanted v_wrong v_after v_calls v_oneB v_twoB) H := hP.sub [0] rfl
          have hDc : va_D A (wX12_branchTo cI cB a_mo a_mem a_mks a_mr a_cnt a_wd a_one a_two a_mmade a_mrest a_old v_thrown v_mask v_key v_wait v_problem v_code v_length v_cond v_masks v_addr v_mwanted v_wrong v_after v_calls v_oneB v_twoB) := hD.sub [0] (by decide) rfl
          have hFc := va_free (wc := (wX12_branchTo cI cB a_mo a_mem a_mks a_mr a_cnt a_wd a_one a_two a_mmade a_mrest a_old v_thrown v_mask v_key v_wait v_problem v_code v_length v_cond v_masks v_addr v_mwanted v_wrong v_after v_calls v_oneB v_twoB)) hD hS hA [0] rfl
          refine va_callv (va_runV (As := [.int x3]) (rest := []) ⟨hx, hb, hml, hown, hts⟩ (kX12_branchTo l D cI cB a_mo a_mem a_mks a_mr a_cnt a_wd a_one a_two a_mmade a_mrest a_old H.size v_thrown v_mask v_key v_wait v_problem v_code v_length v_cond v_masks v_addr v_mwanted v_wrong v_after v_calls v_oneB v_twoB x3) (cwV 1 hts (gd_V wd_917 wd_918 wd_919 wd_807 wd_911) rfl rfl rfl hdX12_branchTo ⟨Nat.le_of_ble_eq_true rfl, Nat.le_of_ble_eq_true rfl⟩) (preV_std (ci := 12) (q0 := 0) hPc hK hDc hNW rfl rfl) rfl rfl hl.1 rfl (lv_room (Nat.le_of_ble_eq_true rfl)) dX12_loop_79 ⟨Nat.zero_le _, Nat.zero_le _⟩) hS (fun q _ h => hFc q h) hFc (fun u_79 t9 H1 locs ht9 hvm9 hw9 hB9 hz9 hk9 hS => ?_)
          have eu_79 : u_79 = fX12_branchTo x3 v_addr := hw9
          obtain ⟨hP, hD⟩ := back_std (w1 := (wX12_branchTo cI cB a_mo a_mem a_mks a_mr a_cnt a_wd a_one a_two a_mmade a_mrest a_old v_thrown v_mask v_key v_wait v_problem v_code v_length v_cond v_masks u_79 v_mwanted v_wrong v_after v_calls v_oneB v_twoB)) (w2 := (wX12_loop cI cB a_mo a_mem a_mks a_mr a_cnt a_wd a_one a_two a_mmade a_mrest a_old v_thrown v_mask v_key v_wait v_problem v_code v_length v_cond v_masks u_79 v_mwanted v_wrong v_after v_calls v_oneB v_twoB f_44)) (wr := [(a_mr, .inl (cI, 16, .inl f_44))]) hP hD [0] [1] [1, 0] rfl rfl (by decide) (by decide) hk9 hFc hB9 ht9 (by decide) rfl
          clear hB9 hk9 hz9 hvm9 ht9 hFc hPc hDc
          generalize H1 = H at hP hS ⊢
          have hf9 : (u_79, f_44) = fX12_loop x0 x1 x2 x3 v_addr v_mrF := by subst ef_44; subst ex_6; simp only [fX12_loop, ← em_28, ← em_57, ← em_73, ← eu_79]; (try simp only [if_pos c_73])
          exact W.vret hx hb hr (fun t9 ht9 hW9 => ⟨⟨(u_79, f_44), rfl, hf9, ⟨by rw [ht9]; exact hP, va_K.moved hW9.alike hK, hD⟩⟩, hS.F ht9⟩) hS.2.2 dX12_loop_82
      refine lv_icmp_le (tgt := 72) hx hb dX12_loop_65 (by decide) (fun c_65 => ?_) (fun c_65 => ?_)
      · skip
        refine lv_iconst (v := 0) hx hb dX12_loop_72 (by decide) ?_
        exact J_73 0 (by (try simp only [if_pos c_65])) _ _ hP hD hS ls (lv_sub hl [0, 1, 2, 3, 4, 5, 6] rfl)
      · skip
        refine lv_iconst (v := 1) hx hb dX12_loop_68 (by decide) ?_
        refine lv_goto (tgt := 73) hx hb dX12_loop_69 (by decide) ?_
        exact J_73 1 (by (try simp only [if_neg c_65])) _ _ hP hD hS ls (lv_sub hl [0, 1, 2, 3, 4, 5, 6] rfl)
    refine lv_icmp_ne (tgt := 56) hx hb dX12_loop_49 (by decide) (fun c_49 => ?_) (fun c_49 => ?_)
    · skip
      refine lv_iconst (v := 0) hx hb dX12_loop_56 (by decide) ?_
      exact J_57 0 (by (try simp only [if_neg c_49])) _ _ hP hD hS ls (lv_sub hl [1, 2, 3, 4, 5, 6, 0] rfl)
    · skip
      refine lv_iconst (v := 1) hx hb dX12_loop_52 (by decide) ?_
      refine lv_goto (tgt := 57) hx hb dX12_loop_53 (by decide) ?_
      exact J_57 1 (by (try simp only [if_pos c_49])) _ _ hP hD hS ls (lv_sub hl [1, 2, 3, 4, 5, 6, 0] rfl)
  refine lv_icmp_ne (tgt := 20) hx hb dX12_loop_12 (by decide) (fun c_12 => ?_) (fun c_12 => ?_)
  · skip
    refine lv_aload_n hx hb dX12_loop_20 rfl (lv_at hl 1 rfl) ?_
    refine va_get (D := D) (ci := 12) (v := .ref a_mr) (C := RX12) (T := TX12) (N := 26) hx hb hts in_X12 hown hK hP 0 rfl rfl 3 (by decide) q_0 (fun _ h9 => h9) rfl dX12_loop_21 ?_
    refine lv_iload_n hx hb dX12_loop_24 rfl (lv_at hl 4 rfl) ?_
    refine lv_iconst (v := 1) hx hb dX12_loop_25 (by decide) ?_
    refine lv_iadd hx hb dX12_loop_26 ?_
    refine va_iald hx hb hK hP 1 0 rfl rfl (vin_s (vin_e hs c_12)) dX12_loop_27 ?_
    exact J_28 (v_mrF ((x2 + 1) : Int32).toNatClampNeg) (by (try simp only [if_neg c_12])) _ _ hP hD hS ls (lv_sub hl [1, 2, 3, 4, 5, 0] rfl)
  · skip
    refine lv_iload hx hb dX12_loop_15 (lv_at hl 0 rfl) ?_
    refine lv_goto (tgt := 28) hx hb dX12_loop_17 (by decide) ?_
    exact J_28 x_6 (by (try simp only [if_pos c_12])) _ _ hP hD hS ls (lv_sub hl [1, 2, 3, 4, 5, 0] rfl)
theorem hdX12_loop : yX12_loop.cls = RX12 ∧ yX12_loop.cls ≠ "java/lang/invoke/MethodHandle" ∧ yX12_loop.cls ≠ "java/lang/invoke/VarHandle" ∧ (parseMethodDescriptor yX12_loop.desc).map (fun d => d.parameters.length) = some 4 := by decide +kernel
noncomputable def LX12_many_30 (x0 : Int32) (x2 : Int32) (x3 : Int32) (x_8 : Int32) (u_24 : Int32) : Nat → ((Nat → Int32) × (Nat → Int32) × Int32) → ((Nat → Int32) × (Nat → Int32) × Int32)
  | 0, w_30 => w_30
  | n9 + 1, w_30 =>
    if x_8 ≤ w_30.2.2 then ((w_30.1, w_30.2.1, w_30.2.2)) else (if u_24 = 0 then (let m_100 : ((Nat → Int32) × (Nat → Int32)) := (if x3 = 0 then (let r_95 := fX12_fetch (x2 + (4 * w_30.2.2)) 4 w_30.1; let f_99 := upd w_30.2.1 (((x0 + w_30.2.2) &&& 15) : Int32).toNatClampNeg ((r_95 : Int64).toInt32); (w_30.1, f_99)) else (let u_70 := fX12_store (x2 + (4 * w_30.2.2)) (((w_30.2.1 (((x0 + w_30.2.2) &&& 15) : Int32).toNatClampNeg) : Int32).toInt64) 4 w_30.1; (u_70, w_30.2.1))); let x_100 := w_30.2.2 + 1; LX12_many_30 x0 x2 x3 x_8 u_24 n9 (m_100.1, m_100.2, x_100)) else ((w_30.1, w_30.2.1, w_30.2.2)))
noncomputable def fX12_many (x0 : Int32) (x1 : Int32) (x2 : Int32) (x3 : Int32) (v_key : Int32) (v_wrong : Int32) (v_mF : (Nat → Int32)) (v_mkF : (Nat → Int32)) (v_mrF : (Nat → Int32)) : (Int32 × (Nat → Int32) × (Nat → Int32)) :=
  let x_8 := (((x1 - x0) &&& 15) + 1)
  let u_18 := fX12_look x2 (4 * x_8) x3 v_key v_wrong v_mkF
  let u_24 := fX12_even x2 4 u_18
  let g_30 := LX12_many_30 x0 x2 x3 x_8 u_24 (msU x_8 0 + 1) (v_mF, v_mrF, 0)
  (u_24, g_30.1, g_30.2.1)
abbrev wX12_many (cI cB : ClassId) (a_mo a_mem a_mks a_mr a_cnt a_wd a_one a_two a_mmade a_mrest a_old : Nat) (v_thrown : Int32) (v_mask : Int32) (v_key : Int32) (v_wait : Int32) (v_problem : Int32) (v_code : Int32) (v_length : Int32) (v_cond : Int32) (v_masks : Int32) (v_addr : Int32) (v_mwanted : Int32) (v_wrong : Int32) (v_after : Int32) (v_calls : Int32) (v_oneB : Int32) (v_twoB : Int32) (v_mF : (Nat → Int32)) (v_mkF : (Nat → Int32)) (v_mrF : (Nat → Int32)) : va_W := [(a_mo, .inr (12, [.int v_thrown, .ref a_mem, .ref a_mks, .ref a_mr, .int v_mask, .int v_key, .int v_wait, .int v_problem, .int v_code, .int v_length, .int v_cond, .int v_masks, .int v_addr, .int v_mwanted, .ref a_cnt, .ref a_wd, .int v_wrong, .int v_after, .int v_calls, .ref a_one, .int v_oneB, .ref a_two, .int v_twoB, .ref a_mmade, .ref a_mrest, .ref a_old])), (a_mem, .inl (cI, 8192, .inl v_mF)), (a_mks, .inl (cI, 4, .inl v_mkF)), (a_mr, .inl (cI, 16, .inl v_mrF))]
abbrev rmX12_many : Room := { frames := 2, cells := 0, slots := 0, locals := 48 }
abbrev qX12_many (D : va_G) (cI cB : ClassId) (a_mo a_mem a_mks a_mr a_cnt a_wd a_one a_two a_mmade a_mrest a_old : Nat) (v_thrown : Int32) (v_mask : Int32) (v_key : Int32) (v_wait : Int32) (v_problem : Int32) (v_code : Int32) (v_length : Int32) (v_cond : Int32) (v_masks : Int32) (v_addr : Int32) (v_mwanted : Int32) (v_wrong : Int32) (v_after : Int32) (v_calls : Int32) (v_oneB : Int32) (v_twoB : Int32) (v_mF : (Nat → Int32)) (v_mkF : (Nat → Int32)) (v_mrF : (Nat → Int32)) (x0 : Int32) (x1 : Int32) (x2 : Int32) (x3 : Int32) : (Nat → Prop) → Array Value → State → Outcome → State → Prop := fun A9 => va_Qv (fun (u9 : (Int32 × (Nat → Int32) × (Nat → Int32))) => u9 = fX12_many x0 x1 x2 x3 v_key v_wrong v_mF v_mkF v_mrF) (fun u9 t9 => atW D (TYS cI cB) A9 (wX12_many cI cB a_mo a_mem a_mks a_mr a_cnt a_wd a_one a_two a_mmade a_mrest a_old v_thrown v_mask v_key v_wait v_problem v_code v_length v_cond v_masks v_addr v_mwanted u9.1 v_after v_calls v_oneB v_twoB u9.2.1 v_mkF u9.2.2) t9) A9
set_option maxHeartbeats 4000000 in
set_option maxRecDepth 100000 in
theorem kX12_many (l : Launch) (D : va_G) (cI cB : ClassId) (a_mo a_mem a_mks a_mr a_cnt a_wd a_one a_two a_mmade a_mrest a_old : Nat) (sz : Nat) (v_thrown : Int32) (v_mask : Int32) (v_key : Int32) (v_wait : Int32) (v_problem : Int32) (v_code : Int32) (v_length : Int32) (v_cond : Int32) (v_masks : Int32) (v_addr : Int32) (v_mwanted : Int32) (v_wrong : Int32) (v_after : Int32) (v_calls : Int32) (v_oneB : Int32) (v_twoB : Int32) (v_mF : (Nat → Int32)) (v_mkF : (Nat → Int32)) (v_mrF : (Nat → Int32)) (x0 : Int32) (x1 : Int32) (x2 : Int32) (x3 : Int32) (ha : in24 x2) (hw : 0 ≤ v_wrong) : MetW l yX12_many (WK yX12_many cX12_many 7 none) rmX12_many D (TYS cI cB) (wX12_many cI cB a_mo a_mem a_mks a_mr a_cnt a_wd a_one a_two a_mmade a_mrest a_old v_thrown v_mask v_key v_wait v_problem v_code v_length v_cond v_masks v_addr v_mwanted v_wrong v_after v_calls v_oneB v_twoB v_mF v_mkF v_mrF) sz [.ref a_mo, .int x0, .int x1, .int x2, .int x3] (qX12_many D cI cB a_mo a_mem a_mks a_mr a_cnt a_wd a_one a_two a_mmade a_mrest a_old v_thrown v_mask v_key v_wait v_problem v_code v_length v_cond v_masks v_addr v_mwanted v_wrong v_after v_calls v_oneB v_twoB v_mF v_mkF v_mrF x0 x1 x2 x3) 0 0 := by
  refine met_std (by decide) rfl (Nat.le_of_ble_eq_true rfl) ?_
  intro p e s m below meth c A ls H hx hb hr hml hown hts hlocks hA hP hK hD hS hNW hl
  have hl : lv_has ls 7 [(0, .ref a_mo), (1, .int x0), (2, .int x1), (3, .int x2), (4, .int x3)] := hl
  have q_0 := hts _ (List.mem_cons_of_mem _ wd_836)
  have q_1 := hts _ (List.mem_cons_of_mem _ wd_779)
  refine lv_iload_n hx hb dX12_many_0 rfl (lv_at hl 2 rfl) ?_
  refine lv_iload_n hx hb dX12_many_1 rfl (lv_at hl 1 rfl) ?_
  refine lv_isub hx hb dX12_many_2 ?_
  refine lv_bipush (v := 15) hx hb dX12_many_3 (by decide) ?_
  refine lv_iand hx hb dX12_many_5 ?_
  refine lv_iconst (v := 1) hx hb dX12_many_6 (by decide) ?_
  refine lv_iadd hx hb dX12_many_7 ?_
  refine lv_topi (fun x_8 ex_8 => ?_)
  refine lv_istore (lv' := [(5, .int x_8), (0, .ref a_mo), (1, .int x0), (2, .int x1), (3, .int x2), (4, .int x3)]) hx hb dX12_many_8 hl (by decide) rfl (fun ls hl => ?_)
  refine lv_aload_n hx hb dX12_many_10 rfl (lv_at hl 1 rfl) ?_
  refine lv_iload_n hx hb dX12_many_11 rfl (lv_at hl 4 rfl) ?_
  refine lv_iconst (v := 4) hx hb dX12_many_12 (by decide) ?_
  refine lv_iload hx hb dX12_many_13 (lv_at hl 0 rfl) ?_
  refine lv_imul hx hb dX12_many_15 ?_
  refine lv_iload hx hb dX12_many_16 (lv_at hl 5 rfl) ?_
  have hPc : va_P D vwCl (wX12_look cI cB a_mo a_mem a_mks a_mr a_cnt a_wd a_one a_two a_mmade a_mrest a_old v_thrown v_mask v_key v_wait v_problem v_code v_length v_cond v_masks v_addr v_mwanted v_wrong v_after v_calls v_oneB v_twoB v_mkF) H := hP.sub [0, 2] rfl
  have hDc : va_D A (wX12_look cI cB a_mo a_mem a_mks a_mr a_cnt a_wd a_one a_two a_mmade a_mrest a_old v_thrown v_mask v_key v_wait v_problem v_code v_length v_cond v_masks v_addr v_mwanted v_wrong v_after v_calls v_oneB v_twoB v_mkF) := hD.sub [0, 2] (by decide) rfl
  have hFc := va_free (wc := (wX12_look cI cB a_mo a_mem a_mks a_mr a_cnt a_wd a_one a_two a_mmade a_mrest a_old v_thrown v_mask v_key v_wait v_problem v_code v_length v_cond v_masks v_addr v_mwanted v_wrong v_after v_calls v_oneB v_twoB v_mkF)) hD hS hA [0, 2] rfl
  refine va_callv (va_runV (As := [.int x2, .int (4 * x_8), .int x3]) (rest := []) ⟨hx, hb, hml, hown, hts⟩ (kX12_look l D cI cB a_mo a_mem a_mks a_mr a_cnt a_wd a_one a_two a_mmade a_mrest a_old H.size v_thrown v_mask v_key v_wait v_problem v_code v_length v_cond v_masks v_addr v_mwanted v_wrong v_after v_calls v_oneB v_twoB v_mkF x2 (4 * x_8) x3) (cwV 3 hts (gd_V wd_857 wd_858 wd_859 wd_807 wd_837) rfl rfl rfl hdX12_look ⟨Nat.le_of_ble_eq_true rfl, Nat.le_of_ble_eq_true rfl⟩) (preV_std (ci := 12) (q0 := 0) hPc hK hDc hNW rfl rfl) rfl rfl hl.1 rfl (lv_room (Nat.le_of_ble_eq_true rfl)) dX12_many_18 ⟨Nat.zero_le _, Nat.zero_le _⟩) hS (fun q _ h => hFc q h) hFc (fun u_18 t9 H1 locs ht9 hvm9 hw9 hB9 hz9 hk9 hS => ?_)
  have eu_18 : u_18 = fX12_look x2 (4 * x_8) x3 v_key v_wrong v_mkF := hw9
  obtain ⟨hP, hD⟩ := back_std (w1 := (wX12_look cI cB a_mo a_mem a_mks a_mr a_cnt a_wd a_one a_two a_mmade a_mrest a_old v_thrown v_mask v_key v_wait v_problem v_code v_length v_cond v_masks v_addr v_mwanted u_18 v_after v_calls v_oneB v_twoB v_mkF)) (w2 := (wX12_many cI cB a_mo a_mem a_mks a_mr a_cnt a_wd a_one a_two a_mmade a_mrest a_old v_thrown v_mask v_key v_wait v_problem v_code v_length v_cond v_masks v_addr v_mwanted u_18 v_after v_calls v_oneB v_twoB v_mF v_mkF v_mrF)) (wr := [(a_mem, .inl (cI, 8192, .inl v_mF)), (a_mr, .inl (cI, 16, .inl v_mrF))]) hP hD [0, 2] [1, 3] [2, 0, 3, 1] rfl rfl (by decide) (by decide) hk9 hFc hB9 ht9 (by decide) rfl
  clear hB9 hk9 hz9 hvm9 ht9 hFc hPc hDc
  generalize H1 = H at hP hS ⊢
  refine lv_aload_n hx hb dX12_many_21 rfl (lv_at hl 1 rfl) ?_
  refine lv_iload_n hx hb dX12_many_22 rfl (lv_at hl 4 rfl) ?_
  refine lv_iconst (v := 4) hx hb dX12_many_23 (by decide) ?_
  have hPc : va_P D vwCl (wX12_even cI cB a_mo a_mem a_mks a_mr a_cnt a_wd a_one a_two a_mmade a_mrest a_old v_thrown v_mask v_key v_wait v_problem v_code v_length v_cond v_masks v_addr v_mwanted u_18 v_after v_calls v_oneB v_twoB) H := hP.sub [0] rfl
  have hDc : va_D A (wX12_even cI cB a_mo a_mem a_mks a_mr a_cnt a_wd a_one a_two a_mmade a_mrest a_old v_thrown v_mask v_key v_wait v_problem v_code v_length v_cond v_masks v_addr v_mwanted u_18 v_after v_calls v_oneB v_twoB) := hD.sub [0] (by decide) rfl
  have hFc := va_free (wc := (wX12_even cI cB a_mo a_mem a_mks a_mr a_cnt a_wd a_one a_two a_mmade a_mrest a_old v_thrown v_mask v_key v_wait v_problem v_code v_length v_cond v_masks v_addr v_mwanted u_18 v_after v_calls v_oneB v_twoB)) hD hS hA [0] rfl
  refine va_callv (va_runV (As := [.int x2, .int 4]) (rest := []) ⟨hx, hb, hml, hown, hts⟩ (kX12_even l D cI cB a_mo a_mem a_mks a_mr a_cnt a_wd a_one a_two a_mmade a_mrest a_old H.size v_thrown v_mask v_key v_wait v_problem v_code v_length v_cond v_masks v_addr v_mwanted u_18 v_after v_calls v_oneB v_twoB x2 4 (by first | with_reducible assumption | decide | (unfold vp_in; decide))) (cwV 2 hts (gd_V wd_860 wd_861 wd_862 wd_807 wd_841) rfl rfl rfl hdX12_even ⟨Nat.le_of_ble_eq_true rfl, Nat.le_of_ble_eq_true rfl⟩) (preV_std (ci := 12) (q0 := 0) hPc hK hDc hNW rfl rfl) rfl rfl hl.1 rfl (lv_room (Nat.le_of_ble_eq_true rfl)) dX12_many_24 ⟨Nat.zero_le _, Nat.zero_le _⟩) hS (fun q _ h => hFc q h) hFc (fun u_24 t9 H1 locs ht9 hvm9 hw9 hB9 hz9 hk9 hS => ?_)
  have eu_24 : u_24 = fX12_even x2 4 u_18 := hw9
  obtain ⟨hP, hD⟩ := back_std (w1 := (wX12_even cI cB a_mo a_mem a_mks a_mr a_cnt a_wd a_one a_two a_mmade a_mrest a_old v_thrown v_mask v_key v_wait v_problem v_code v_length v_cond v_masks v_addr v_mwanted u_24 v_after v_calls v_oneB v_twoB)) (w2 := (wX12_many cI cB a_mo a_mem a_mks a_mr a_cnt a_wd a_one a_two a_mmade a_mrest a_old v_thrown v_mask v_key v_wait v_problem v_code v_length v_cond v_masks v_addr v_mwanted u_24 v_after v_calls v_oneB v_twoB v_mF v_mkF v_mrF)) (wr := [(a_mem, .inl (cI, 8192, .inl v_mF)), (a_mks, .inl (cI, 4, .inl v_mkF)), (a_mr, .inl (cI, 16, .inl v_mrF))]) hP hD [0] [1, 2, 3] [3, 0, 1, 2] rfl rfl (by decide) (by decide) hk9 hFc hB9 ht9 (by decide) rfl
  clear hB9 hk9 hz9 hvm9 ht9 hFc hPc hDc
  generalize H1 = H at hP hS ⊢
  refine lv_iconst (v := 0) hx hb dX12_many_27 (by decide) ?_
  refine lv_istore (lv' := [(6, .int 0), (5, .int x_8), (0, .ref a_mo), (1, .int x0), (2, .int x1), (3, .int x2), (4, .int x3)]) hx hb dX12_many_28 hl (by decide) rfl (fun ls hl => ?_)
  obtain ⟨g_30, eg_30⟩ : ∃ z : ((Nat → Int32) × (Nat → Int32) × Int32), z = LX12_many_30 x0 x2 x3 x_8 u_24 (msU x_8 0 + 1) (v_mF, v_mrF, 0) := ⟨_, rfl⟩
  have K_30_0 : ∀ (H : Heap) (locs : List Loc), va_P D vwCl (wX12_many cI cB a_mo a_mem a_mks a_mr a_cnt a_wd a_one a_two a_mmade a_mrest a_old v_thrown v_mask v_key v_wait v_problem v_code v_length v_cond v_masks v_addr v_mwanted u_24 v_after v_calls v_oneB v_twoB g_30.1 v_mkF g_30.2.1) H → va_D A (wX12_many cI cB a_mo a_mem a_mks a_mr a_cnt a_wd a_one a_two a_mmade a_mrest a_old v_thrown v_mask v_key v_wait v_problem v_code v_length v_cond v_masks v_addr v_mwanted u_24 v_after v_calls v_oneB v_twoB g_30.1 v_mkF g_30.2.1) → va_S A s.heap H locs → ∀ (ls : Array Slot), lv_has ls 7 [(0, .ref a_mo), (1, .int x0), (2, .int x1), (3, .int x2), (4, .int x3), (5, .int x_8), (6, .int g_30.2.2)] → W p l e rmX12_many s m ([.ref a_mo, .int x0, .int x1, .int x2, .int x3] : List Value).toArray below meth c H locs 0 0 (MQ below (qX12_many D cI cB a_mo a_mem a_mks a_mr a_cnt a_wd a_one a_two a_mmade a_mrest a_old v_thrown v_mask v_key v_wait v_problem v_code v_length v_cond v_masks v_addr v_mwanted v_wrong v_after v_calls v_oneB v_twoB v_mF v_mkF v_mrF x0 x1 x2 x3 A) ([.ref a_mo, .int x0, .int x1, .int x2, .int x3] : List Value).toArray s 0 0 A) (F0 m 106 ls []) := by
    intro H locs hP hD hS ls hl
    have hf9 : (u_24, g_30.1, g_30.2.1) = fX12_many x0 x1 x2 x3 v_key v_wrong v_mF v_mkF v_mrF := by subst ex_8; simp only [fX12_many, ← eu_18, ← eu_24, ← eg_30]
    exact W.vret hx hb hr (fun t9 ht9 hW9 => ⟨⟨(u_24, g_30.1, g_30.2.1), rfl, hf9, ⟨by rw [ht9]; exact hP, va_K.moved hW9.alike hK, hD⟩⟩, hS.F ht9⟩) hS.2.2 dX12_many_106
  have lp_30 : ∀ (n9 : Nat) (w_30 : ((Nat → Int32) × (Nat → Int32) × Int32)), msU x_8 w_30.2.2 < n9 → 0 ≤ w_30.2.2 → LX12_many_30 x0 x2 x3 x_8 u_24 n9 w_30 = g_30 → ∀ (H : Heap) (locs : List Loc), va_P D vwCl (wX12_many cI cB a_mo a_mem a_mks a_mr a_cnt a_wd a_one a_two a_mmade a_mrest a_old v_thrown v_mask v_key v_wait v_problem v_code v_length v_cond v_masks v_addr v_mwanted u_24 v_after v_calls v_oneB v_twoB w_30.1 v_mkF w_30.2.1) H → va_D A (wX12_many cI cB a_mo a_mem a_mks a_mr a_cnt a_wd a_one a_two a_mmade a_mrest a_old v_thrown v_mask v_key v_wait v_problem v_code v_length v_cond v_masks v_addr v_mwanted u_24 v_after v_calls v_oneB v_twoB w_30.1 v_mkF w_30.2.1) → va_S A s.heap H locs → ∀ (ls : Array Slot), lv_has ls 7 [(0, .ref a_mo), (1, .int x0), (2, .int x1), (3, .int x2), (4, .int x3), (5, .int x_8), (6, .int w_30.2.2)] → W p l e rmX12_many s m ([.ref a_mo, .int x0, .int x1, .int x2, .int x3] : List Value).toArray below meth c H locs 0 0 (MQ below (qX12_many D cI cB a_mo a_mem a_mks a_mr a_cnt a_wd a_one a_two a_mmade a_mrest a_old v_thrown v_mask v_key v_wait v_problem v_code v_length v_cond v_masks v_addr v_mwanted v_wrong v_after v_calls v_oneB v_twoB v_mF v_mkF v_mrF x0 x1 x2 x3 A) ([.ref a_mo, .int x0, .int x1, .int x2, .int x3] : List Value).toArray s 0 0 A) (F0 m 30 ls []) := by
    intro n9
    induction n9 with
    | zero => intro w_30 hm9; exact absurd hm9 (Nat.not_lt_zero _)
    | succ n9 ih =>
      intro w_30 hm9 hI9 hL9 H locs hP hD hS ls hl
      have hI_30 := hI9
      refine lv_iload hx hb dX12_many_30 (lv_at hl 6 rfl) ?_
      refine lv_iload hx hb dX12_many_32 (lv_at hl 5 rfl) ?_
      refine lv_icmp_ge (tgt := 106) hx hb dX12_many_34 (by decide) (fun c_34 => ?_) (fun c_34 => ?_)
      · skip
        have hg9 : (w_30.1, w_30.2.1, w_30.2.2) = g_30 := by rw [← hL9]; simp only [LX12_many_30]; (try simp only [if_pos c_34])
        subst hg9
        exact K_30_0 _ _ hP hD hS ls (lv_sub hl [0, 1, 2, 3, 4, 5, 6] rfl)
      · skip
        refine lv_aload_n hx hb dX12_many_37 rfl (lv_at hl 0 rfl) ?_
        refine va_get (D := D) (ci := 12) (v := .int u_24) (C := RX12) (T := TX12) (N := 26) hx hb hts in_X12 hown hK hP 0 rfl rfl 16 (by decide) q_0 (fun _ h9 => h9) rfl dX12_many_38 ?_
        refine lv_if_ne (tgt := 106) hx hb dX12_many_41 (by decide) (fun c_41 => ?_) (fun c_41 => ?_)
        · skip
          have hg9 : (w_30.1, w_30.2.1, w_30.2.2) = g_30 := by rw [← hL9]; simp only [LX12_many_30]; (try simp only [if_neg c_34, if_neg c_41])
          subst hg9
          exact K_30_0 _ _ hP hD hS ls (lv_sub hl [0, 1, 2, 3, 4, 5, 6] rfl)
        · skip
          refine lv_iload hx hb dX12_many_44 (lv_at hl 4 rfl) ?_
          have J_100 : ∀ (m_100 : ((Nat → Int32) × (Nat → Int32))), m_100 = (if x3 = 0 then (let r_95 := fX12_fetch (x2 + (4 * w_30.2.2)) 4 w_30.1; let f_99 := upd w_30.2.1 (((x0 + w_30.2.2) &&& 15) : Int32).toNatClampNeg ((r_95 : Int64).toInt32); (w_30.1, f_99)) else (let u_70 := fX12_store (x2 + (4 * w_30.2.2)) (((w_30.2.1 (((x0 + w_30.2.2) &&& 15) : Int32).toNatClampNeg) : Int32).toInt64) 4 w_30.1; (u_70, w_30.2.1))) → ∀ (H : Heap) (locs : List Loc), va_P D vwCl (wX12_many cI cB a_mo a_mem a_mks a_mr a_cnt a_wd a_one a_two a_mmade a_mrest a_old v_thrown v_mask v_key v_wait v_problem v_code v_length v_cond v_masks v_addr v_mwanted u_24 v_after v_calls v_oneB v_twoB m_100.1 v_mkF m_100.2) H → va_D A (wX12_many cI cB a_mo a_mem a_mks a_mr a_cnt a_wd a_one a_two a_mmade a_mrest a_old v_thrown v_mask v_key v_wait v_problem v_code v_length v_cond v_masks v_addr v_mwanted u_24 v_after v_calls v_oneB v_twoB m_100.1 v_mkF m_100.2) → va_S A s.heap H locs → ∀ (ls : Array Slot), lv_has ls 7 [(0, .ref a_mo), (1, .int x0), (2, .int x1), (3, .int x2), (4, .int x3), (5, .int x_8), (6, .int w_30.2.2)] → W p l e rmX12_many s m ([.ref a_mo, .int x0, .int x1, .int x2, .int x3] : List Value).toArray below meth c H locs 0 0 (MQ below (qX12_many D cI cB a_mo a_mem a_mks a_mr a_cnt a_wd a_one a_two a_mmade a_mrest a_old v_thrown v_mask v_key v_wait v_problem v_code v_length v_cond v_masks v_addr v_mwanted v_wrong v_after v_calls v_oneB v_twoB v_mF v_mkF v_mrF x0 x1 x2 x3 A) ([.ref a_mo, .int x0, .int x1, .int x2, .int x3] : List Value).toArray s 0 0 A) (F0 m 100 ls []) := by
            intro m_100 em_100 H locs hP hD hS ls hl
            try dsimp only at em_100
            obtain ⟨x_100, ex_100⟩ : ∃ z : Int32, z = w_30.2.2 + 1 := ⟨_, rfl⟩
            refine lv_iinc (v := x_100) (lv' := [(6, .int x_100), (0, .ref a_mo), (1, .int x0), (2, .int x1), (3, .int x2), (4, .int x3), (5, .int x_8)]) hx hb dX12_many_100 hl (k := 6) rfl (by rw [ex_100]; rfl) (by decide) rfl (fun ls hl => ?_)
            refine lv_goto (tgt := 30) hx hb dX12_many_103 (by decide) ?_
            exact ih (m_100.1, m_100.2, x_100) (by subst ex_100; subst em_100;  exact Nat.lt_of_lt_of_le (ms_up c_34) (Nat.le_of_lt_succ hm9)) (by subst ex_100; subst em_100;  exact nn_up hI9 c_34) (by rw [← hL9]; subst ex_100; simp only [LX12_many_30, ← em_100]; (try simp only [if_neg c_34, if_pos c_41])) _ _ hP hD hS ls (lv_sub hl [1, 2, 3, 4, 5, 6, 0] rfl)
          refine lv_if_eq (tgt := 76) hx hb dX12_many_46 (by decide) (fun c_46 => ?_) (fun c_46 => ?_)
          · skip
            refine lv_aload_n hx hb dX12_many_76 rfl (lv_at hl 0 rfl) ?_
            refine va_get (D := D) (ci := 12) (v := .ref a_mr) (C := RX12) (T := TX12) (N := 26) hx hb hts in_X12 hown hK hP 0 rfl rfl 3 (by decide) q_1 (fun _ h9 => h9) rfl dX12_many_77 ?_
            refine lv_iload_n hx hb dX12_many_80 rfl (lv_at hl 1 rfl) ?_
            refine lv_iload hx hb dX12_many_81 (lv_at hl 6 rfl) ?_
            refine lv_iadd hx hb dX12_many_83 ?_
            refine lv_bipush (v := 15) hx hb dX12_many_84 (by decide) ?_
            refine lv_iand hx hb dX12_many_86 ?_
            refine lv_aload_n hx hb dX12_many_87 rfl (lv_at hl 0 rfl) ?_
            refine lv_iload_n hx hb dX12_many_88 rfl (lv_at hl 3 rfl) ?_
            refine lv_iconst (v := 4) hx hb dX12_many_89 (by decide) ?_
            refine lv_iload hx hb dX12_many_90 (lv_at hl 6 rfl) ?_
            refine lv_imul hx hb dX12_many_92 ?_
            refine lv_iadd hx hb dX12_many_93 ?_
            refine lv_iconst (v := 4) hx hb dX12_many_94 (by decide) ?_
            have hPc : va_P D vwCl (wX12_fetch cI cB a_mo a_mem a_mks a_mr a_cnt a_wd a_one a_two a_mmade a_mrest a_old v_thrown v_mask v_key v_wait v_problem v_code v_length v_cond v_masks v_addr v_mwanted u_24 v_after v_calls v_oneB v_twoB w_30.1) H := hP.sub [0, 1] rfl
            have hDc : va_D A (wX12_fetch cI cB a_mo a_mem a_mks a_mr a_cnt a_wd a_one a_two a_mmade a_mrest a_old v_thrown v_mask v_key v_wait v_problem v_code v_length v_cond v_masks v_addr v_mwanted u_24 v_after v_calls v_oneB v_twoB w_30.1) := hD.sub [0, 1] (by decide) rfl
            have hFc := va_free (wc := (wX12_fetch cI cB a_mo a_mem a_mks a_mr a_cnt a_wd a_one a_two a_mmade a_mrest a_old v_thrown v_mask v_key v_wait v_problem v_code v_length v_cond v_masks v_addr v_mwanted u_24 v_after v_calls v_oneB v_twoB w_30.1)) hD hS hA [0, 1] rfl
            refine va_calll (va_runV (As := [.int ((x2 + (4 * w_30.2.2))), .int 4]) (rest := [.int (((x0 + w_30.2.2) &&& 15)), .ref a_mr]) ⟨hx, hb, hml, hown, hts⟩ (kX12_fetch l D cI cB a_mo a_mem a_mks a_mr a_cnt a_wd a_one a_two a_mmade a_mrest a_old H.size v_thrown v_mask v_key v_wait v_problem v_code v_length v_cond v_masks v_addr v_mwanted u_24 v_after v_calls v_oneB v_twoB w_30.1 (x2 + (4 * w_30.2.2)) 4 (mn_in ha hw ex_8 eu_18 eu_24 c_41 hI9 c_34)) (cwV 2 hts (gd_V wd_830 wd_831 wd_832 wd_807 wd_819) rfl rfl rfl hdX12_fetch ⟨Nat.le_of_ble_eq_true rfl, Nat.le_of_ble_eq_true rfl⟩) (preV_std (ci := 12) (q0 := 0) hPc hK hDc hNW rfl rfl) rfl rfl hl.1 rfl (lv_room (Nat.le_of_ble_eq_true rfl)) dX12_many_95 ⟨Nat.zero_le _, Nat.zero_le _⟩) hS (fun q _ h => hFc q h) hFc (fun r_95 u_95 t9 H1 locs ht9 hvm9 hw9 hB9 hz9 hk9 hS => ?_)
            have er_95 : r_95 = fX12_fetch (x2 + (4 * w_30.2.2)) 4 w_30.1 := hw9
            obtain ⟨hP, hD⟩ := back_std (w1 := (wX12_fetch cI cB a_mo a_mem a_mks a_mr a_cnt a_wd a_one a_two a_mmade a_mrest a_old v_thrown v_mask v_key v_wait v_problem v_code v_length v_cond v_masks v_addr v_mwanted u_24 v_after v_calls v_oneB v_twoB w_30.1)) (w2 := (wX12_many cI cB a_mo a_mem a_mks a_mr a_cnt a_wd a_one a_two a_mmade a_mrest a_old v_thrown v_mask v_key v_wait v_problem v_code v_length v_cond v_masks v_addr v_mwanted u_24 v_after v_calls v_oneB v_twoB w_30.1 v_mkF w_30.2.1)) (wr := [(a_mks, .inl (cI, 4, .inl v_mkF)), (a_mr, .inl (cI, 16, .inl w_30.2.1))]) hP hD [0, 1] [2, 3] [2, 3, 0, 1] rfl rfl (by decide) (by decide) hk9 hFc hB9 ht9 (by decide) rfl
            clear hB9 hk9 hz9 hvm9 ht9 hFc hPc hDc
            generalize H1 = H at hP hS ⊢
            refine lv_l2i hx hb dX12_many_98 rfl ?_
            refine va_iast hx hb hK hP hD hS 3 0 rfl rfl (pk_andIn _ 4 (by decide) (by decide)) dX12_many_99 (fun H locs hP hD hS => ?_)
            obtain ⟨f_99, ef_99⟩ : ∃ z : Nat → Int32, z = upd w_30.2.1 (((x0 + w_30.2.2) &&& 15) : Int32).toNatClampNeg ((r_95 : Int64).toInt32) := ⟨_, rfl⟩
            have hP : va_P D vwCl (wX12_many cI cB a_mo a_mem a_mks a_mr a_cnt a_wd a_one a_two a_mmade a_mrest a_old v_thrown v_mask v_key v_wait v_problem v_code v_length v_cond v_masks v_addr v_mwanted u_24 v_after v_calls v_oneB v_twoB w_30.1 v_mkF (upd w_30.2.1 (((x0 + w_30.2.2) &&& 15) : Int32).toNatClampNeg ((r_95 : Int64).toInt32))) H := hP
            have hD : va_D A (wX12_many cI cB a_mo a_mem a_mks a_mr a_cnt a_wd a_one a_two a_mmade a_mrest a_old v_thrown v_mask v_key v_wait v_problem v_code v_length v_cond v_masks v_addr v_mwanted u_24 v_after v_calls v_oneB v_twoB w_30.1 v_mkF (upd w_30.2.1 (((x0 + w_30.2.2) &&& 15) : Int32).toNatClampNeg ((r_95 : Int64).toInt32))) := hD
            rw [← ef_99] at hP hD
            exact J_100 (w_30.1, f_99) (by subst ef_99; (try simp only [← er_95]); (try simp only [if_pos c_46])) _ _ hP hD hS ls (lv_sub hl [0, 1, 2, 3, 4, 5, 6] rfl)
          · skip
            refine lv_aload_n hx hb dX12_many_49 rfl (lv_at hl 0 rfl) ?_
            refine lv_iload_n hx hb dX12_many_50 rfl (lv_at hl 3 rfl) ?_
            refine lv_iconst (v := 4) hx hb dX12_many_51 (by decide) ?_
            refine lv_iload hx hb dX12_many_52 (lv_at hl 6 rfl) ?_
            refine lv_imul hx hb dX12_many_54 ?_
            refine lv_iadd hx hb dX12_many_55 ?_
            refine lv_aload_n hx hb dX12_many_56 rfl (lv_at hl 0 rfl) ?_
            refine va_get (D := D) (ci := 12) (v := .ref a_mr) (C := RX12) (T := TX12) (N := 26) hx hb hts in_X12 hown hK hP 0 rfl rfl 3 (by decide) q_1 (fun _ h9 => h9) rfl dX12_many_57 ?_
            refine lv_iload_n hx hb dX12_many_60 rfl (lv_at hl 1 rfl) ?_
            refine lv_iload hx hb dX12_many_61 (lv_at hl 6 rfl) ?_
            refine lv_iadd hx hb dX12_many_63 ?_
            refine lv_bipush (v := 15) hx hb dX12_many_64 (by decide) ?_
            refine lv_iand hx hb dX12_many_66 ?_
            refine va_iald hx hb hK hP 3 0 rfl rfl (pk_andIn _ 4 (by decide) (by decide)) dX12_many_67 ?_
            refine lv_i2l hx hb dX12_many_68 rfl ?_
            refine lv_iconst (v := 4) hx hb dX12_many_69 (by decide) ?_
            have hPc : va_P D vwCl (wX12_store cI cB a_mo a_mem a_mks a_mr a_cnt a_wd a_one a_two a_mmade a_mrest a_old v_thrown v_mask v_key v_wait v_problem v_code v_length v_cond v_masks v_addr v_mwanted u_24 v_after v_calls v_oneB v_twoB w_30.1) H := hP.sub [0, 1] rfl
            have hDc : va_D A (wX12_store cI cB a_mo a_mem a_mks a_mr a_cnt a_wd a_one a_two a_mmade a_mrest a_old v_thrown v_mask v_key v_wait v_problem v_code v_length v_cond v_masks v_addr v_mwanted u_24 v_after v_calls v_oneB v_twoB w_30.1) := hD.sub [0, 1] (by decide) rfl
            have hFc := va_free (wc := (wX12_store cI cB a_mo a_mem a_mks a_mr a_cnt a_wd a_one a_two a_mmade a_mrest a_old v_thrown v_mask v_key v_wait v_problem v_code v_length v_cond v_masks v_addr v_mwanted u_24 v_after v_calls v_oneB v_twoB w_30.1)) hD hS hA [0, 1] rfl
            refine va_callv (va_runV (As := [.int ((x2 + (4 * w_30.2.2))), .long (((w_30.2.1 (((x0 + w_30.2.2) &&& 15) : Int32).toNatClampNeg) : Int32).toInt64), .int 4]) (rest := []) ⟨hx, hb, hml, hown, hts⟩ (kX12_store l D cI cB a_mo a_mem a_mks a_mr a_cnt a_wd a_one a_two a_mmade a_mrest a_old H.size v_thrown v_mask v_key v_wait v_problem v_code v_length v_cond v_masks v_addr v_mwanted u_24 v_after v_calls v_oneB v_twoB w_30.1 (x2 + (4 * w_30.2.2)) (((w_30.2.1 (((x0 + w_30.2.2) &&& 15) : Int32).toNatClampNeg) : Int32).toInt64) 4 (mn_in ha hw ex_8 eu_18 eu_24 c_41 hI9 c_34)) (cwV 3 hts (gd_V wd_826 wd_827 wd_828 wd_807 wd_820) rfl rfl rfl hdX12_store ⟨Nat.le_of_ble_eq_true rfl, Nat.le_of_ble_eq_true rfl⟩) (preV_std (ci := 12) (q0 := 0) hPc hK hDc hNW rfl rfl) rfl rfl hl.1 rfl (lv_room (Nat.le_of_ble_eq_true rfl)) dX12_many_70 ⟨Nat.zero_le _, Nat.zero_le _⟩) hS (fun q _ h => hFc q h) hFc (fun u_70 t9 H1 locs ht9 hvm9 hw9 hB9 hz9 hk9 hS => ?_)
            have eu_70 : u_70 = fX12_store (x2 + (4 * w_30.2.2)) (((w_30.2.1 (((x0 + w_30.2.2) &&& 15) : Int32).toNatClampNeg) : Int32).toInt64) 4 w_30.1 := hw9
            obtain ⟨hP, hD⟩ := back_std (w1 := (wX12_store cI cB a_mo a_mem a_mks a_mr a_cnt a_wd a_one a_two a_mmade a_mrest a_old v_thrown v_mask v_key v_wait v_problem v_code v_length v_cond v_masks v_addr v_mwanted u_24 v_after v_calls v_oneB v_twoB u_70)) (w2 := (wX12_many cI cB a_mo a_mem a_mks a_mr a_cnt a_wd a_one a_two a_mmade a_mrest a_old v_thrown v_mask v_key v_wait v_problem v_code v_length v_cond v_masks v_addr v_mwanted u_24 v_after v_calls v_oneB v_twoB u_70 v_mkF w_30.2.1)) (wr := [(a_mks, .inl (cI, 4, .inl v_mkF)), (a_mr, .inl (cI, 16, .inl w_30.2.1))]) hP hD [0, 1] [2, 3] [2, 3, 0, 1] rfl rfl (by decide) (by decide) hk9 hFc hB9 ht9 (by decide) rfl
            clear hB9 hk9 hz9 hvm9 ht9 hFc hPc hDc
            generalize H1 = H at hP hS ⊢
            refine lv_goto (tgt := 100) hx hb dX12_many_73 (by decide) ?_
            exact J_100 (u_70, w_30.2.1) (by (try simp only [← eu_70]); (try simp only [if_neg c_46])) _ _ hP hD hS ls (lv_sub hl [0, 1, 2, 3, 4, 5, 6] rfl)
  exact lp_30 (msU x_8 0 + 1) (v_mF, v_mrF, 0) (Nat.lt_succ_self _) (by show (0 : Int32) ≤ 0; decide) eg_30.symm _ _ hP hD hS ls (lv_sub hl [2, 3, 4, 5, 6, 1, 0] rfl)
theorem hdX12_many : yX12_many.cls = RX12 ∧ yX12_many.cls ≠ "java/lang/invoke/MethodHandle" ∧ yX12_many.cls ≠ "java/lang/invoke/VarHandle" ∧ (parseMethodDescriptor yX12_many.desc).map (fun d => d.parameters.length) = some 4 := by decide +kernel
noncomputable def fX12_withByte (x0 : Int32) (x1 : Int32) (x2 : Int32) (v_key : Int32) (v_cond : Int32) (v_wrong : Int32) (v_mF : (Nat → Int32)) (v_mkF : (Nat → Int32)) : (Int32 × Int32 × (Nat → Int32)) :=
  let m_19 : Int32 := (if x0 = 145 then (0) else (if x0 = 149 then (0) else (1)))
  let u_26 := fX12_look x2 1 m_19 v_key v_wrong v_mkF
  if u_26 ≤ 0 then (let x_43 := (v_mF (x2 : Int32).toNatClampNeg); if x0 = 145 then (let x_84 := (x_43 &&& x1); let m_107 : Int32 := (if x_84 = 0 then (0) else (if x_84 = x1 then (3) else (1))); (m_107, u_26, v_mF)) else (if x0 = 146 then (let f_119 := upd v_mF (x2 : Int32).toNatClampNeg (x1); (v_cond, u_26, f_119)) else (if x0 = 147 then (let x_129 := (x_43 >>> (7 &&& 31)); let f_140 := upd v_mF (x2 : Int32).toNatClampNeg (255); (x_129, u_26, f_140)) else (if x0 = 149 then (let r_150 := fX12_byOrder ((x_43 : Int32).toInt64) ((x1 : Int32).toInt64); (r_150, u_26, v_mF)) else (let m_196 : Int32 := (if x0 = 148 then ((x_43 &&& x1)) else (if x0 = 150 then ((x_43 ||| x1)) else ((x_43 ^^^ x1)))); let f_196 := upd v_mF (x2 : Int32).toNatClampNeg (m_196); let m_212 : Int32 := (if (f_196 (x2 : Int32).toNatClampNeg) = 0 then (0) else (1)); (m_212, u_26, f_196)))))) else ((v_cond, u_26, v_mF))
abbrev wX12_withByte (cI cB : ClassId) (a_mo a_mem a_mks a_mr a_cnt a_wd a_one a_two a_mmade a_mrest a_old : Nat) (v_thrown : Int32) (v_mask : Int32) (v_key : Int32) (v_wait : Int32) (v_problem : Int32) (v_code : Int32) (v_length : Int32) (v_cond : Int32) (v_masks : Int32) (v_addr : Int32) (v_mwanted : Int32) (v_wrong : Int32) (v_after : Int32) (v_calls : Int32) (v_oneB : Int32) (v_twoB : Int32) (v_mF : (Nat → Int32)) (v_mkF : (Nat → Int32)) : va_W := [(a_mo, .inr (12, [.int v_thrown, .ref a_mem, .ref a_mks, .ref a_mr, .int v_mask, .int v_key, .int v_wait, .int v_problem, .int v_code, .int v_length, .int v_cond, .int v_masks, .int v_addr, .int v_mwanted, .ref a_cnt, .ref a_wd, .int v_wrong, .int v_after, .int v_calls, .ref a_one, .int v_oneB, .ref a_two, .int v_twoB, .ref a_mmade, .ref a_mrest, .ref a_old])), (a_mem, .inl (cI, 8192, .inl v_mF)), (a_mks, .inl (cI, 4, .inl v_mkF))]
abbrev rmX12_withByte : Room := { frames := 2, cells := 0, slots := 0, locals := 48 }
abbrev qX12_withByte (D : va_G) (cI cB : ClassId) (a_mo a_mem a_mks a_mr a_cnt a_wd a_one a_two a_mmade a_mrest a_old : Nat) (v_thrown : Int32) (v_mask : Int32) (v_key : Int32) (v_wait : Int32) (v_problem : Int32) (v_code : Int32) (v_length : Int32) (v_cond : Int32) (v_masks : Int32) (v_addr : Int32) (v_mwanted : Int32) (v_wrong : Int32) (v_after : Int32) (v_calls : Int32) (v_oneB : Int32) (v_twoB : Int32) (v_mF : (Nat → Int32)) (v_mkF : (Nat → Int32)) (x0 : Int32) (x1 : Int32) (x2 : Int32) : (Nat → Prop) → Array Value → State → Outcome → State → Prop := fun A9 => va_Qv (fun (u9 : (Int32 × Int32 × (Nat → Int32))) => u9 = fX12_withByte x0 x1 x2 v_key v_cond v_wrong v_mF v_mkF) (fun u9 t9 => atW D (TYS cI cB) A9 (wX12_withByte cI cB a_mo a_mem a_mks a_mr a_cnt a_wd a_one a_two a_mmade a_mrest a_old v_thrown v_mask v_key v_wait v_problem v_code v_length u9.1 v_masks v_addr v_mwanted u9.2.1 v_after v_calls v_oneB v_twoB u9.2.2 v_mkF) t9) A9
set_option maxHeartbeats 4000000 in
set_option maxRecDepth 100000 in
theorem kX12_withByte (l : Launch) (D : va_G) (cI cB : ClassId) (a_mo a_mem a_mks a_mr a_cnt a_wd a_one a_two a_mmade a_mrest a_old : Nat) (sz : Nat) (v_thrown : Int32) (v_mask : Int32) (v_key : Int32) (v_wait : Int32) (v_problem : Int32) (v_code : Int32) (v_length : Int32) (v_cond : Int32) (v_masks : Int32) (v_addr : Int32) (v_mwanted : Int32) (v_wrong : Int32) (v_after : Int32) (v_calls : Int32) (v_oneB : Int32) (v_twoB : Int32) (v_mF : (Nat → Int32)) (v_mkF : (Nat → Int32)) (x0 : Int32) (x1 : Int32) (x2 : Int32) (ha : in24 x2) (hw : 0 ≤ v_wrong) : MetW l yX12_withByte (WK yX12_withByte cX12_withByte 7 none) rmX12_withByte D (TYS cI cB) (wX12_withByte cI cB a_mo a_mem a_mks a_mr a_cnt a_wd a_one a_two a_mmade a_mrest a_old v_thrown v_mask v_key v_wait v_problem v_code v_length v_cond v_masks v_addr v_mwanted v_wrong v_after v_calls v_oneB v_twoB v_mF v_mkF) sz [.ref a_mo, .int x0, .int x1, .int x2] (qX12_withByte D cI cB a_mo a_mem a_mks a_mr a_cnt a_wd a_one a_two a_mmade a_mrest a_old v_thrown v_mask v_key v_wait v_problem v_code v_length v_cond v_masks v_addr v_mwanted v_wrong v_after v_calls v_oneB v_twoB v_mF v_mkF x0 x1 x2) 0 0 := by
  refine met_std (by decide) rfl (Nat.le_of_ble_eq_true rfl) ?_
  intro p e s m below meth c A ls H hx hb hr hml hown hts hlocks hA hP hK hD hS hNW hl
  have hl : lv_has ls 7 [(0, .ref a_mo), (1, .int x0), (2, .int x1), (3, .int x2)] := hl
  generalize ([] : List Loc) = locs at hS ⊢
  have q_0 := hts _ (List.mem_cons_of_mem _ wd_836)
  have q_1 := hts _ (List.mem_cons_of_mem _ wd_777)
  have q_2 := hts _ (List.mem_cons_of_mem _ wd_792)
  refine lv_iload_n hx hb dX12_withByte_0 rfl (lv_at hl 1 rfl) ?_
  refine lv_sipush (v := 145) hx hb dX12_withByte_1 (by decide) ?_
  have J_19 : ∀ (m_19 : Int32), m_19 = (if x0 = 145 then (0) else (if x0 = 149 then (0) else (1))) → ∀ (H : Heap) (locs : List Loc), va_P D vwCl (wX12_withByte cI cB a_mo a_mem a_mks a_mr a_cnt a_wd a_one a_two a_mmade a_mrest a_old v_thrown v_mask v_key v_wait v_problem v_code v_length v_cond v_masks v_addr v_mwanted v_wrong v_after v_calls v_oneB v_twoB v_mF v_mkF) H → va_D A (wX12_withByte cI cB a_mo a_mem a_mks a_mr a_cnt a_wd a_one a_two a_mmade a_mrest a_old v_thrown v_mask v_key v_wait v_problem v_code v_length v_cond v_masks v_addr v_mwanted v_wrong v_after v_calls v_oneB v_twoB v_mF v_mkF) → va_S A s.heap H locs → ∀ (ls : Array Slot), lv_has ls 7 [(0, .ref a_mo), (1, .int x0), (2, .int x1), (3, .int x2)] → W p l e rmX12_withByte s m ([.ref a_mo, .int x0, .int x1, .int x2] : List Value).toArray below meth c H locs 0 0 (MQ below (qX12_withByte D cI cB a_mo a_mem a_mks a_mr a_cnt a_wd a_one a_two a_mmade a_mrest a_old v_thrown v_mask v_key v_wait v_problem v_code v_length v_cond v_masks v_addr v_mwanted v_wrong v_after v_calls v_oneB v_twoB v_mF v_mkF x0 x1 x2 A) ([.ref a_mo, .int x0, .int x1, .int x2] : List Value).toArray s 0 0 A) (F0 m 19 ls [.int m_19]) := by
    intro m_19 em_19 H locs hP hD hS ls hl
    try dsimp only at em_19
    have zm_19_0 : m_19 = 0 ∨ m_19 = 1 := by rw [em_19]; (try dsimp only); (repeat' split) <;> first | exact Or.inl rfl | exact Or.inr rfl
    refine lv_istore (lv' := [(4, .int m_19), (0, .ref a_mo), (1, .int x0), (2, .int x1), (3, .int x2)]) hx hb dX12_withByte_19 hl (by decide) rfl (fun ls hl => ?_)
    refine lv_aload_n hx hb dX12_withByte_21 rfl (lv_at hl 1 rfl) ?_
    refine lv_iload_n hx hb dX12_withByte_22 rfl (lv_at hl 4 rfl) ?_
    refine lv_iconst (v := 1) hx hb dX12_withByte_23 (by decide) ?_
    refine lv_iload hx hb dX12_withByte_24 (lv_at hl 0 rfl) ?_
    have hPc : va_P D vwCl (wX12_look cI cB a_mo a_mem a_mks a_mr a_cnt a_wd a_one a_two a_mmade a_mrest a_old v_thrown v_mask v_key v_wait v_problem v_code v_length v_cond v_masks v_addr v_mwanted v_wrong v_after v_calls v_oneB v_twoB v_mkF) H := hP.sub [0, 2] rfl
    have hDc : va_D A (wX12_look cI cB a_mo a_mem a_mks a_mr a_cnt a_wd a_one a_two a_mmade a_mrest a_old v_thrown v_mask v_key v_wait v_problem v_code v_length v_cond v_masks v_addr v_mwanted v_wrong v_after v_calls v_oneB v_twoB v_mkF) := hD.sub [0, 2] (by decide) rfl
    have hFc := va_free (wc := (wX12_look cI cB a_mo a_mem a_mks a_mr a_cnt a_wd a_one a_two a_mmade a_mrest a_old v_thrown v_mask v_key v_wait v_problem v_code v_length v_cond v_masks v_addr v_mwanted v_wrong v_after v_calls v_oneB v_twoB v_mkF)) hD hS hA [0, 2] rfl
    refine va_callv (va_runV (As := [.int x2, .int 1, .int m_19]) (rest := []) ⟨hx, hb, hml, hown, hts⟩ (kX12_look l D cI cB a_mo a_mem a_mks a_mr a_cnt a_wd a_one a_two a_mmade a_mrest a_old H.size v_thrown v_mask v_key v_wait v_problem v_code v_length v_cond v_masks v_addr v_mwanted v_wrong v_after v_calls v_oneB v_twoB v_mkF x2 1 m_19) (cwV 3 hts (gd_V wd_857 wd_858 wd_859 wd_807 wd_837) rfl rfl rfl hdX12_look ⟨Nat.le_of_ble_eq_true rfl, Nat.le_of_ble_eq_true rfl⟩) (preV_std (ci := 12) (q0 := 0) hPc hK hDc hNW rfl rfl) rfl rfl hl.1 rfl (lv_room (Nat.le_of_ble_eq_true rfl)) dX12_withByte_26 ⟨Nat.zero_le _, Nat.zero_le _⟩) hS (fun q _ h => hFc q h) hFc (fun u_26 t9 H1 locs ht9 hvm9 hw9 hB9 hz9 hk9 hS => ?_)
    have eu_26 : u_26 = fX12_look x2 1 m_19 v_key v_wrong v_mkF := hw9
    obtain ⟨hP, hD⟩ := back_std (w1 := (wX12_look cI cB a_mo a_mem a_mks a_mr a_cnt a_wd a_one a_two a_mmade a_mrest a_old v_thrown v_mask v_key v_wait v_problem v_code v_length v_cond v_masks v_addr v_mwanted u_26 v_after v_calls v_oneB v_twoB v_mkF)) (w2 := (wX12_withByte cI cB a_mo a_mem a_mks a_mr a_cnt a_wd a_one a_two a_mmade a_mrest a_old v_thrown v_mask v_key v_wait v_problem v_code v_length v_cond v_masks v_addr v_mwanted u_26 v_after v_calls v_oneB v_twoB v_mF v_mkF)) (wr := [(a_mem, .inl (cI, 8192, .inl v_mF))]) hP hD [0, 2] [1] [1, 0, 2] rfl rfl (by decide) (by decide) hk9 hFc hB9 ht9 (by decide) rfl
    clear hB9 hk9 hz9 hvm9 ht9 hFc hPc hDc
    generalize H1 = H at hP hS ⊢
    refine lv_aload_n hx hb dX12_withByte_29 rfl (lv_at hl 1 rfl) ?_
    refine va_get (D := D) (ci := 12) (v := .int u_26) (C := RX12) (T := TX12) (N := 26) hx hb hts in_X12 hown hK hP 0 rfl rfl 16 (by decide) q_0 (fun _ h9 => h9) rfl dX12_withByte_30 ?_
    refine lv_if_le (tgt := 37) hx hb dX12_withByte_33 (by decide) (fun c_33 => ?_) (fun c_33 => ?_)
    · skip
      have hat : vp_in x2 8192 := lk_in ha hw eu_26 c_33
      refine lv_aload_n hx hb dX12_withByte_37 rfl (lv_at hl 1 rfl) ?_
      refine va_get (D := D) (ci := 12) (v := .ref a_mem) (C := RX12) (T := TX12) (N := 26) hx hb hts in_X12 hown hK hP 0 rfl rfl 1 (by decide) q_1 (fun _ h9 => h9) rfl dX12_withByte_38 ?_
      refine lv_iload_n hx hb dX12_withByte_41 rfl (lv_at hl 4 rfl) ?_
      refine va_iald hx hb hK hP 1 0 rfl rfl (by first | with_reducible assumption | exact vin_of (b := 8192) (by decide) (by with_reducible assumption) (by with_reducible assumption) | exact vin_of (b := 8192) (by decide) (Int32.not_lt.mp (by with_reducible assumption)) (by with_reducible assumption) | exact vin_dn (by decide) (by with_reducible assumption) hI9) dX12_withByte_42 ?_
      refine lv_topi (fun x_43 ex_43 => ?_)
      refine lv_istore (lv' := [(5, .int x_43), (4, .int m_19), (0, .ref a_mo), (1, .int x0), (2, .int x1), (3, .int x2)]) hx hb dX12_withByte_43 hl (by decide) rfl (fun ls hl => ?_)
      refine lv_iload_n hx hb dX12_withByte_45 rfl (lv_at hl 3 rfl) ?_
      by_cases c_46_0 : x0 = 145
      · skip
        refine lv_tableIn (tgt := 80) (off := 34) hx hb dX12_withByte_46 (by rw [c_46_0]; decide) (by rw [c_46_0]; decide) (by rw [c_46_0]; rfl) (by decide) ?_
        refine lv_iload hx hb dX12_withByte_80 (lv_at hl 0 rfl) ?_
        refine lv_iload_n hx hb dX12_withByte_82 rfl (lv_at hl 4 rfl) ?_
        refine lv_iand hx hb dX12_withByte_83 ?_
        refine lv_topi (fun x_84 ex_84 => ?_)
        refine lv_istore (lv' := [(6, .int x_84), (5, .int x_43), (4, .int m_19), (0, .ref a_mo), (1, .int x0), (2, .int x1), (3, .int x2)]) hx hb dX12_withByte_84 hl (by decide) rfl (fun ls hl => ?_)
        refine lv_aload_n hx hb dX12_withByte_86 rfl (lv_at hl 3 rfl) ?_
        refine lv_iload hx hb dX12_withByte_87 (lv_at hl 0 rfl) ?_
        have J_107 : ∀ (m_107 : Int32), m_107 = (if x_84 = 0 then (0) else (if x_84 = x1 then (3) else (1))) → ∀ (H : Heap) (locs : List Loc), va_P D vwCl (wX12_withByte cI cB a_mo a_mem a_mks a_mr a_cnt a_wd a_one a_two a_mmade a_mrest a_old v_thrown v_mask v_key v_wait v_problem v_code v_length v_cond v_masks v_addr v_mwanted u_26 v_after v_calls v_oneB v_twoB v_mF v_mkF) H → va_D A (wX12_withByte cI cB a_mo a_mem a_mks a_mr a_cnt a_wd a_one a_two a_mmade a_mrest a_old v_thrown v_mask v_key v_wait v_problem v_code v_length v_cond v_masks v_addr v_mwanted u_26 v_after v_calls v_oneB v_twoB v_mF v_mkF) → va_S A s.heap H locs → ∀ (ls : Array Slot), lv_has ls 7 [(0, .ref a_mo), (1, .int x0), (2, .int x1), (3, .int x2), (4, .int m_19), (5, .int x_43), (6, .int x_84)] → W p l e rmX12_withByte s m ([.ref a_mo, .int x0, .int x1, .int x2] : List Value).toArray below meth c H locs 0 0 (MQ below (qX12_withByte D cI cB a_mo a_mem a_mks a_mr a_cnt a_wd a_one a_two a_mmade a_mrest a_old v_thrown v_mask v_key v_wait v_problem v_code v_length v_cond v_masks v_addr v_mwanted v_wrong v_after v_calls v_oneB v_twoB v_mF v_mkF x0 x1 x2 A) ([.ref a_mo, .int x0, .int x1, .int x2] : List Value).toArray s 0 0 A) (F0 m 107 ls [.int m_107, .ref a_mo]) := by
          intro m_107 em_107 H locs hP hD hS ls hl
          try dsimp only at em_107
          refine va_put (D := D) (ci := 12) (v := .int m_107) (ty := .int) (C := RX12) (T := TX12) (N := 26) hx hb hts in_X12 tyX12 tyX12_ok nmX12 hown hK hP hD hS 0 rfl rfl 10 (by decide) q_2 (fun _ h9 => h9) rfl (by decide +kernel) rfl rfl (Nat.le_of_ble_eq_true rfl) dX12_withByte_107 (fun H locs hP hD hS => ?_)
          have hP : va_P D vwCl (wX12_withByte cI cB a_mo a_mem a_mks a_mr a_cnt a_wd a_one a_two a_mmade a_mrest a_old v_thrown v_mask v_key v_wait v_problem v_code v_length m_107 v_masks v_addr v_mwanted u_26 v_after v_calls v_oneB v_twoB v_mF v_mkF) H := hP
          have hD : va_D A (wX12_withByte cI cB a_mo a_mem a_mks a_mr a_cnt a_wd a_one a_two a_mmade a_mrest a_old v_thrown v_mask v_key v_wait v_problem v_code v_length m_107 v_masks v_addr v_mwanted u_26 v_after v_calls v_oneB v_twoB v_mF v_mkF) := hD
          refine lv_goto (tgt := 215) hx hb dX12_withByte_110 (by decide) ?_
          have hf9 : (m_107, u_26, v_mF) = fX12_withByte x0 x1 x2 v_key v_cond v_wrong v_mF v_mkF := by subst ex_84; subst ex_43; simp only [fX12_withByte, ← em_19, ← eu_26, ← em_107]; (try simp only [if_pos c_33, if_pos c_46_0])
          exact W.vret hx hb hr (fun t9 ht9 hW9 => ⟨⟨(m_107, u_26, v_mF), rfl, hf9, ⟨by rw [ht9]; exact hP, va_K.moved hW9.alike hK, hD⟩⟩, hS.F ht9⟩) hS.2.2 dX12_withByte_215
        refine lv_if_ne (tgt := 96) hx hb dX12_withByte_89 (by decide) (fun c_89 => ?_) (fun c_89 => ?_)
        · skip
          refine lv_iload hx hb dX12_withByte_96 (lv_at hl 0 rfl) ?_
          refine lv_iload_n hx hb dX12_withByte_98 rfl (lv_at hl 5 rfl) ?_
          refine lv_icmp_ne (tgt := 106) hx hb dX12_withByte_99 (by decide) (fun c_99 => ?_) (fun c_99 => ?_)
          · skip
            refine lv_iconst (v := 1) hx hb dX12_withByte_106 (by decide) ?_
            exact J_107 1 (by (try simp only [if_neg c_89, if_neg c_99])) _ _ hP hD hS ls (lv_sub hl [3, 4, 5, 6, 2, 1, 0] rfl)
          · skip
            refine lv_iconst (v := 3) hx hb dX12_withByte_102 (by decide) ?_
            refine lv_goto (tgt := 107) hx hb dX12_withByte_103 (by decide) ?_
            exact J_107 3 (by (try simp only [if_neg c_89, if_pos c_99])) _ _ hP hD hS ls (lv_sub hl [3, 4, 5, 6, 2, 1, 0] rfl)
        · skip
          refine lv_iconst (v := 0) hx hb dX12_withByte_92 (by decide) ?_
          refine lv_goto (tgt := 107) hx hb dX12_withByte_93 (by decide) ?_
          exact J_107 0 (by (try simp only [if_pos c_89])) _ _ hP hD hS ls (lv_sub hl [3, 4, 5, 6, 2, 1, 0] rfl)
      · skip
        by_cases c_46_1 : x0 = 146
        · skip
          refine lv_tableIn (tgt := 113) (off := 67) hx hb dX12_withByte_46 (by rw [c_46_1]; decide) (by rw [c_46_1]; decide) (by rw [c_46_1]; rfl) (by decide) ?_
          refine lv_aload_n hx hb dX12_withByte_113 rfl (lv_at hl 2 rfl) ?_
          refine va_get (D := D) (ci := 12) (v := .ref a_mem) (C := RX12) (T := TX12) (N := 26) hx hb hts in_X12 hown hK hP 0 rfl rfl 1 (by decide) q_1 (fun _ h9 => h9) rfl dX12_withByte_114 ?_
          refine lv_iload_n hx hb dX12_withByte_117 rfl (lv_at hl 5 rfl) ?_
          refine lv_iload_n hx hb dX12_withByte_118 rfl (lv_at hl 4 rfl) ?_
          refine va_iast hx hb hK hP hD hS 1 0 rfl rfl (by first | with_reducible assumption | exact vin_of (b := 8192) (by decide) (by with_reducible assumption) (by with_reducible assumption) | exact vin_of (b := 8192) (by decide) (Int32.not_lt.mp (by with_reducible assumption)) (by with_reducible assumption) | exact vin_dn (by decide) (by with_reducible assumption) hI9) dX12_withByte_119 (fun H locs hP hD hS => ?_)
          obtain ⟨f_119, ef_119⟩ : ∃ z : Nat → Int32, z = upd v_mF (x2 : Int32).toNatClampNeg (x1) := ⟨_, rfl⟩
          have hP : va_P D vwCl (wX12_withByte cI cB a_mo a_mem a_mks a_mr a_cnt a_wd a_one a_two a_mmade a_mrest a_old v_thrown v_mask v_key v_wait v_problem v_code v_length v_cond v_masks v_addr v_mwanted u_26 v_after v_calls v_oneB v_twoB (upd v_mF (x2 : Int32).toNatClampNeg (x1)) v_mkF) H := hP
          have hD : va_D A (wX12_withByte cI cB a_mo a_mem a_mks a_mr a_cnt a_wd a_one a_two a_mmade a_mrest a_old v_thrown v_mask v_key v_wait v_problem v_code v_length v_cond v_masks v_addr v_mwanted u_26 v_after v_calls v_oneB v_twoB (upd v_mF (x2 : Int32).toNatClampNeg (x1)) v_mkF) := hD
          rw [← ef_119] at hP hD
          refine lv_goto (tgt := 215) hx hb dX12_withByte_120 (by decide) ?_
          have hf9 : (v_cond, u_26, f_119) = fX12_withByte x0 x1 x2 v_key v_cond v_wrong v_mF v_mkF := by subst ef_119; subst ex_43; simp only [fX12_withByte, ← em_19, ← eu_26]; (try simp only [if_pos c_33, if_neg c_46_0, if_pos c_46_1])
          exact W.vret hx hb hr (fun t9 ht9 hW9 => ⟨⟨(v_cond, u_26, f_119), rfl, hf9, ⟨by rw [ht9]; exact hP, va_K.moved hW9.alike hK, hD⟩⟩, hS.F ht9⟩) hS.2.2 dX12_withByte_215
        · skip
          by_cases c_46_2 : x0 = 147
          · skip
            refine lv_tableIn (tgt := 123) (off := 77) hx hb dX12_withByte_46 (by rw [c_46_2]; decide) (by rw [c_46_2]; decide) (by rw [c_46_2]; rfl) (by decide) ?_
            refine lv_aload_n hx hb dX12_withByte_123 rfl (lv_at hl 2 rfl) ?_
            refine lv_iload hx hb dX12_withByte_124 (lv_at hl 0 rfl) ?_
            refine lv_bipush (v := 7) hx hb dX12_withByte_126 (by decide) ?_
            refine lv_ishr hx hb dX12_withByte_128 ?_
            refine lv_topi (fun x_129 ex_129 => ?_)
            refine va_put (D := D) (ci := 12) (v := .int x_129) (ty := .int) (C := RX12) (T := TX12) (N := 26) hx hb hts in_X12 tyX12 tyX12_ok nmX12 hown hK hP hD hS 0 rfl rfl 10 (by decide) q_2 (fun _ h9 => h9) rfl (by decide +kernel) rfl rfl (Nat.le_of_ble_eq_true rfl) dX12_withByte_129 (fun H locs hP hD hS => ?_)
            have hP : va_P D vwCl (wX12_withByte cI cB a_mo a_mem a_mks a_mr a_cnt a_wd a_one a_two a_mmade a_mrest a_old v_thrown v_mask v_key v_wait v_problem v_code v_length x_129 v_masks v_addr v_mwanted u_26 v_after v_calls v_oneB v_twoB v_mF v_mkF) H := hP
            have hD : va_D A (wX12_withByte cI cB a_mo a_mem a_mks a_mr a_cnt a_wd a_one a_two a_mmade a_mrest a_old v_thrown v_mask v_key v_wait v_problem v_code v_length x_129 v_masks v_addr v_mwanted u_26 v_after v_calls v_oneB v_twoB v_mF v_mkF) := hD
            refine lv_aload_n hx hb dX12_withByte_132 rfl (lv_at hl 2 rfl) ?_
            refine va_get (D := D) (ci := 12) (v := .ref a_mem) (C := RX12) (T := TX12) (N := 26) hx hb hts in_X12 hown hK hP 0 rfl rfl 1 (by decide) q_1 (fun _ h9 => h9) rfl dX12_withByte_133 ?_
            refine lv_iload_n hx hb dX12_withByte_136 rfl (lv_at hl 5 rfl) ?_
            refine lv_sipush (v := 255) hx hb dX12_withByte_137 (by decide) ?_
            refine va_iast hx hb hK hP hD hS 1 0 rfl rfl (by first | with_reducible assumption | exact vin_of (b := 8192) (by decide) (by with_reducible assumption) (by with_reducible assumption) | exact vin_of (b := 8192) (by decide) (Int32.not_lt.mp (by with_reducible assumption)) (by with_reducible assumption) | exact vin_dn (by decide) (by with_reducible assumption) hI9) dX12_withByte_140 (fun H locs hP hD hS => ?_)
            obtain ⟨f_140, ef_140⟩ : ∃ z : Nat → Int32, z = upd v_mF (x2 : Int32).toNatClampNeg (255) := ⟨_, rfl⟩
            have hP : va_P D vwCl (wX12_withByte cI cB a_mo a_mem a_mks a_mr a_cnt a_wd a_one a_two a_mmade a_mrest a_old v_thrown v_mask v_key v_wait v_problem v_code v_length x_129 v_masks v_addr v_mwanted u_26 v_after v_calls v_oneB v_twoB (upd v_mF (x2 : Int32).toNatClampNeg (255)) v_mkF) H := hP
            have hD : va_D A (wX12_withByte cI cB a_mo a_mem a_mks a_mr a_cnt a_wd a_one a_two a_mmade a_mrest a_old v_thrown v_mask v_key v_wait v_problem v_code v_length x_129 v_masks v_addr v_mwanted u_26 v_after v_calls v_oneB v_twoB (upd v_mF (x2 : Int32).toNatClampNeg (255)) v_mkF) := hD
            rw [← ef_140] at hP hD
            refine lv_goto (tgt := 215) hx hb dX12_withByte_141 (by decide) ?_
            have hf9 : (x_129, u_26, f_140) = fX12_withByte x0 x1 x2 v_key v_cond v_wrong v_mF v_mkF := by subst ef_140; subst ex_129; subst ex_43; simp only [fX12_withByte, ← em_19, ← eu_26]; (try simp only [if_pos c_33, if_neg c_46_0, if_neg c_46_1, if_pos c_46_2])
            exact W.vret hx hb hr (fun t9 ht9 hW9 => ⟨⟨(x_129, u_26, f_140), rfl, hf9, ⟨by rw [ht9]; exact hP, va_K.moved hW9.alike hK, hD⟩⟩, hS.F ht9⟩) hS.2.2 dX12_withByte_215
          · skip
            by_cases c_46_3 : x0 = 149
            · skip
              refine lv_tableIn (tgt := 144) (off := 98) hx hb dX12_withByte_46 (by rw [c_46_3]; decide) (by rw [c_46_3]; decide) (by rw [c_46_3]; rfl) (by decide) ?_
              refine lv_aload_n hx hb dX12_withByte_144 rfl (lv_at hl 2 rfl) ?_
              refine lv_iload hx hb dX12_withByte_145 (lv_at hl 0 rfl) ?_
              refine lv_i2l hx hb dX12_withByte_147 rfl ?_
              refine lv_iload_n hx hb dX12_withByte_148 rfl (lv_at hl 4 rfl) ?_
              refine lv_i2l hx hb dX12_withByte_149 rfl ?_
              have hPc : va_P D vwCl (wX12_byOrder cI cB  ) H := hP.sub [] rfl
              have hDc : va_D A (wX12_byOrder cI cB  ) := hD.sub [] (by decide) rfl
              have hFc := va_free (wc := (wX12_byOrder cI cB  )) hD hS hA [] rfl
              refine va_calli (va_runS (As := [.long (x_43 : Int32).toInt64, .long (x1 : Int32).toInt64]) (rest := [.ref a_mo]) ⟨hx, hb, hml, hown, hts⟩ (kX12_byOrder l D cI cB  H.size  ((x_43 : Int32).toInt64) ((x1 : Int32).toInt64)) (va_cwS 2 hts (gd_S wd_878 wd_879 wd_807 wd_845) rfl rfl rfl hdX12_byOrder.2 ⟨Nat.le_of_ble_eq_true rfl, Nat.le_of_ble_eq_true rfl⟩) (preS_std hPc hK hDc hNW) rfl rfl hl.1 rfl (lv_room (Nat.le_of_ble_eq_true rfl)) dX12_withByte_150 ⟨Nat.zero_le _, Nat.zero_le _⟩) hS (fun q _ h => hFc q h) hFc (fun r_150 u_150 t9 H1 locs ht9 hvm9 hw9 hB9 hz9 hk9 hS => ?_)
              have er_150 : r_150 = fX12_byOrder ((x_43 : Int32).toInt64) ((x1 : Int32).toInt64) := hw9
              obtain ⟨hP, hD⟩ := back_std (w1 := (wX12_byOrder cI cB  )) (w2 := (wX12_withByte cI cB a_mo a_mem a_mks a_mr a_cnt a_wd a_one a_two a_mmade a_mrest a_old v_thrown v_mask v_key v_wait v_problem v_code v_length v_cond v_masks v_addr v_mwanted u_26 v_after v_calls v_oneB v_twoB v_mF v_mkF)) (wr := [(a_mo, .inr (12, [.int v_thrown, .ref a_mem, .ref a_mks, .ref a_mr, .int v_mask, .int v_key, .int v_wait, .int v_problem, .int v_code, .int v_length, .int v_cond, .int v_masks, .int v_addr, .int v_mwanted, .ref a_cnt, .ref a_wd, .int u_26, .int v_after, .int v_calls, .ref a_one, .int v_oneB, .ref a_two, .int v_twoB, .ref a_mmade, .ref a_mrest, .ref a_old])), (a_mem, .inl (cI, 8192, .inl v_mF)), (a_mks, .inl (cI, 4, .inl v_mkF))]) hP hD [] [0, 1, 2] [0, 1, 2] rfl rfl (by decide) (by decide) hk9 hFc hB9 ht9 (by decide) rfl
              clear hB9 hk9 hz9 hvm9 ht9 hFc hPc hDc
              generalize H1 = H at hP hS ⊢
              refine va_put (D := D) (ci := 12) (v := .int r_150) (ty := .int) (C := RX12) (T := TX12) (N := 26) hx hb hts in_X12 tyX12 tyX12_ok nmX12 hown hK hP hD hS 0 rfl rfl 10 (by decide) q_2 (fun _ h9 => h9) rfl (by decide +kernel) rfl rfl (Nat.le_of_ble_eq_true rfl) dX12_withByte_153 (fun H locs hP hD hS => ?_)
              have hP : va_P D vwCl (wX12_withByte cI cB a_mo a_mem a_mks a_mr a_cnt a_wd a_one a_two a_mmade a_mrest a_old v_thrown v_mask v_key v_wait v_problem v_code v_length r_150 v_masks v_addr v_mwanted u_26 v_after v_calls v_oneB v_twoB v_mF v_mkF) H := hP
              have hD : va_D A (wX12_withByte cI cB a_mo a_mem a_mks a_mr a_cnt a_wd a_one a_two a_mmade a_mrest a_old v_thrown v_mask v_key v_wait v_problem v_code v_length r_150 v_masks v_addr v_mwanted u_26 v_after v_calls v_oneB v_twoB v_mF v_mkF) := hD
              refine lv_goto (tgt := 215) hx hb dX12_withByte_156 (by decide) ?_
              have hf9 : (r_150, u_26, v_mF) = fX12_withByte x0 x1 x2 v_key v_cond v_wrong v_mF v_mkF := by subst ex_43; simp only [fX12_withByte, ← em_19, ← eu_26, ← er_150]; (try simp only [if_pos c_33, if_neg c_46_0, if_neg c_46_1, if_neg c_46_2, if_pos c_46_3])
              exact W.vret hx hb hr (fun t9 ht9 hW9 => ⟨⟨(r_150, u_26, v_mF), rfl, hf9, ⟨by rw [ht9]; exact hP, va_K.moved hW9.alike hK, hD⟩⟩, hS.F ht9⟩) hS.2.2 dX12_withByte_215
            · skip
              refine sw_def (tgt := 159) hx hb [145, 146, 147, 149] dX12_withByte_46 (by decide) (by decide) ?_ (by decide) ?_
              · intro v hv he
                simp only [List.mem_cons, List.not_mem_nil, or_false] at hv
                have hx9 : x0 = Int32.ofInt v := by rw [← he, Int32.ofInt_toInt]
                revert hx9
                rcases hv with rfl | rfl | rfl | rfl <;> intro hx9 <;> first | exact c_46_0 (by rw [hx9]; decide) | exact c_46_1 (by rw [hx9]; decide) | exact c_46_2 (by rw [hx9]; decide) | exact c_46_3 (by rw [hx9]; decide)
              · skip
                refine lv_aload_n hx hb dX12_withByte_159 rfl (lv_at hl 2 rfl) ?_
                refine va_get (D := D) (ci := 12) (v := .ref a_mem) (C := RX12) (T := TX12) (N := 26) hx hb hts in_X12 hown hK hP 0 rfl rfl 1 (by decide) q_1 (fun _ h9 => h9) rfl dX12_withByte_160 ?_
                refine lv_iload_n hx hb dX12_withByte_163 rfl (lv_at hl 5 rfl) ?_
                refine lv_iload_n hx hb dX12_withByte_164 rfl (lv_at hl 3 rfl) ?_
                refine lv_sipush (v := 148) hx hb dX12_withByte_165 (by decide) ?_
                have J_196 : ∀ (m_196 : Int32), m_196 = (if x0 = 148 then ((x_43 &&& x1)) else (if x0 = 150 then ((x_43 ||| x1)) else ((x_43 ^^^ x1)))) → ∀ (H : Heap) (locs : List Loc), va_P D vwCl (wX12_withByte cI cB a_mo a_mem a_mks a_mr a_cnt a_wd a_one a_two a_mmade a_mrest a_old v_thrown v_mask v_key v_wait v_problem v_code v_length v_cond v_masks v_addr v_mwanted u_26 v_after v_calls v_oneB v_twoB v_mF v_mkF) H → va_D A (wX12_withByte cI cB a_mo a_mem a_mks a_mr a_cnt a_wd a_one a_two a_mmade a_mrest a_old v_thrown v_mask v_key v_wait v_problem v_code v_length v_cond v_masks v_addr v_mwanted u_26 v_after v_calls v_oneB v_twoB v_mF v_mkF) → va_S A s.heap H locs → ∀ (ls : Array Slot), lv_has ls 7 [(0, .ref a_mo), (1, .int x0), (2, .int x1), (3, .int x2), (4, .int m_19), (5, .int x_43)] → W p l e rmX12_withByte s m ([.ref a_mo, .int x0, .int x1, .int x2] : List Value).toArray below meth c H locs 0 0 (MQ below (qX12_withByte D cI cB a_mo a_mem a_mks a_mr a_cnt a_wd a_one a_two a_mmade a_mrest a_old v_thrown v_mask v_key v_wait v_problem v_code v_length v_cond v_masks v_addr v_mwanted v_wrong v_after v_calls v_oneB v_twoB v_mF v_mkF x0 x1 x2 A) ([.ref a_mo, .int x0, .int x1, .int x2] : List Value).toArray s 0 0 A) (F0 m 196 ls [.int m_196, .int x2, .ref a_mem]) := by
                  intro m_196 em_196 H locs hP hD hS ls hl
                  try dsimp only at em_196
                  refine va_iast hx hb hK hP hD hS 1 0 rfl rfl (by first | with_reducible assumption | exact vin_of (b := 8192) (by decide) (by with_reducible assumption) (by with_reducible assumption) | exact vin_of (b := 8192) (by decide) (Int32.not_lt.mp (by with_reducible assumption)) (by with_reducible assumption) | exact vin_dn (by decide) (by with_reducible assumption) hI9) dX12_withByte_196 (fun H locs hP hD hS => ?_)
                  obtain ⟨f_196, ef_196⟩ : ∃ z : Nat → Int32, z = upd v_mF (x2 : Int32).toNatClampNeg (m_196) := ⟨_, rfl⟩
                  have hP : va_P D vwCl (wX12_withByte cI cB a_mo a_mem a_mks a_mr a_cnt a_wd a_one a_two a_mmade a_mrest a_old v_thrown v_mask v_key v_wait v_problem v_code v_length v_cond v_masks v_addr v_mwanted u_26 v_after v_calls v_oneB v_twoB (upd v_mF (x2 : Int32).toNatClampNeg (m_196)) v_mkF) H := hP
                  have hD : va_D A (wX12_withByte cI cB a_mo a_mem a_mks a_mr a_cnt a_wd a_one a_two a_mmade a_mrest a_old v_thrown v_mask v_key v_wait v_problem v_code v_length v_cond v_masks v_addr v_mwanted u_26 v_after v_calls v_oneB v_twoB (upd v_mF (x2 : Int32).toNatClampNeg (m_196)) v_mkF) := hD
                  rw [← ef_196] at hP hD
                  refine lv_aload_n hx hb dX12_withByte_197 rfl (lv_at hl 0 rfl) ?_
                  refine lv_aload_n hx hb dX12_withByte_198 rfl (lv_at hl 0 rfl) ?_
                  refine va_get (D := D) (ci := 12) (v := .ref a_mem) (C := RX12) (T := TX12) (N := 26) hx hb hts in_X12 hown hK hP 0 rfl rfl 1 (by decide) q_1 (fun _ h9 => h9) rfl dX12_withByte_199 ?_
                  refine lv_iload_n hx hb dX12_withByte_202 rfl (lv_at hl 3 rfl) ?_
                  refine va_iald hx hb hK hP 1 0 rfl rfl (by first | with_reducible assumption | exact vin_of (b := 8192) (by decide) (by with_reducible assumption) (by with_reducible assumption) | exact vin_of (b := 8192) (by decide) (Int32.not_lt.mp (by with_reducible assumption)) (by with_reducible assumption) | exact vin_dn (by decide) (by with_reducible assumption) hI9) dX12_withByte_203 ?_
                  have J_212 : ∀ (m_212 : Int32), m_212 = (if (f_196 (x2 : Int32).toNatClampNeg) = 0 then (0) else (1)) → ∀ (H : Heap) (locs : List Loc), va_P D vwCl (wX12_withByte cI cB a_mo a_mem a_mks a_mr a_cnt a_wd a_one a_two a_mmade a_mrest a_old v_thrown v_mask v_key v_wait v_problem v_code v_length v_cond v_masks v_addr v_mwanted u_26 v_after v_calls v_oneB v_twoB f_196 v_mkF) H → va_D A (wX12_withByte cI cB a_mo a_mem a_mks a_mr a_cnt a_wd a_one a_two a_mmade a_mrest a_old v_thrown v_mask v_key v_wait v_problem v_code v_length v_cond v_masks v_addr v_mwanted u_26 v_after v_calls v_oneB v_twoB f_196 v_mkF) → va_S A s.heap H locs → ∀ (ls : Array Slot), lv_has ls 7 [(0, .ref a_mo), (1, .int x0), (2, .int x1), (3, .int x2), (4, .int m_19), (5, .int x_43)] → W p l e rmX12_withByte s m ([.ref a_mo, .int x0, .int x1, .int x2] : List Value).toArray below meth c H locs 0 0 (MQ below (qX12_withByte D cI cB a_mo a_mem a_mks a_mr a_cnt a_wd a_one a_two a_mmade a_mrest a_old v_thrown v_mask v_key v_wait v_problem v_code v_length v_cond v_masks v_addr v_mwanted v_wrong v_after v_calls v_oneB v_twoB v_mF v_mkF x0 x1 x2 A) ([.ref a_mo, .int x0, .int x1, .int x2] : List Value).toArray s 0 0 A) (F0 m 212 ls [.int m_212, .ref a_mo]) := by
                    intro m_212 em_212 H locs hP hD hS ls hl
                    try dsimp only at em_212
                    have zm_212_0 : m_212 = 0 ∨ m_212 = 1 := by rw [em_212]; (try dsimp only); (repeat' split) <;> first | exact Or.inl rfl | exact Or.inr rfl
                    refine va_put (D := D) (ci := 12) (v := .int m_212) (ty := .int) (C := RX12) (T := TX12) (N := 26) hx hb hts in_X12 tyX12 tyX12_ok nmX12 hown hK hP hD hS 0 rfl rfl 10 (by decide) q_2 (fun _ h9 => h9) rfl (by decide +kernel) rfl rfl (Nat.le_of_ble_eq_true rfl) dX12_withByte_212 (fun H locs hP hD hS => ?_)
                    have hP : va_P D vwCl (wX12_withByte cI cB a_mo a_mem a_mks a_mr a_cnt a_wd a_one a_two a_mmade a_mrest a_old v_thrown v_mask v_key v_wait v_problem v_code v_length m_212 v_masks v_addr v_mwanted u_26 v_after v_calls v_oneB v_twoB f_196 v_mkF) H := hP
                    have hD : va_D A (wX12_withByte cI cB a_mo a_mem a_mks a_mr a_cnt a_wd a_one a_two a_mmade a_mrest a_old v_thrown v_mask v_key v_wait v_problem v_code v_length m_212 v_masks v_addr v_mwanted u_26 v_after v_calls v_oneB v_twoB f_196 v_mkF) := hD
                    have hf9 : (m_212, u_26, f_196) = fX12_withByte x0 x1 x2 v_key v_cond v_wrong v_mF v_mkF := by subst ef_196; subst ex_43; simp only [fX12_withByte, ← em_19, ← eu_26, ← em_196, ← em_212]; (try simp only [if_pos c_33, if_neg c_46_0, if_neg c_46_1, if_neg c_46_2, if_neg c_46_3])
                    exact W.vret hx hb hr (fun t9 ht9 hW9 => ⟨⟨(m_212, u_26, f_196), rfl, hf9, ⟨by rw [ht9]; exact hP, va_K.moved hW9.alike hK, hD⟩⟩, hS.F ht9⟩) hS.2.2 dX12_withByte_215
                  refine lv_if_ne (tgt := 211) hx hb dX12_withByte_204 (by decide) (fun c_204 => ?_) (fun c_204 => ?_)
                  · skip
                    refine lv_iconst (v := 1) hx hb dX12_withByte_211 (by decide) ?_
                    exact J_212 1 (by (try simp only [if_neg c_204])) _ _ hP hD hS ls (lv_sub hl [0, 1, 2, 3, 4, 5] rfl)
                  · skip
                    refine lv_iconst (v := 0) hx hb dX12_withByte_207 (by decide) ?_
                    refine lv_goto (tgt := 212) hx hb dX12_withByte_208 (by decide) ?_
                    exact J_212 0 (by (try simp only [if_pos c_204])) _ _ hP hD hS ls (lv_sub hl [0, 1, 2, 3, 4, 5] rfl)
                refine lv_icmp_ne (tgt := 178) hx hb dX12_withByte_168 (by decide) (fun c_168 => ?_) (fun c_168 => ?_)
                · skip
                  refine lv_iload_n hx hb dX12_withByte_178 rfl (lv_at hl 3 rfl) ?_
                  refine lv_sipush (v := 150) hx hb dX12_withByte_179 (by decide) ?_
                  refine lv_icmp_ne (tgt := 192) hx hb dX12_withByte_182 (by decide) (fun c_182 => ?_) (fun c_182 => ?_)
                  · skip
                    refine lv_iload hx hb dX12_withByte_192 (lv_at hl 0 rfl) ?_
                    refine lv_iload_n hx hb dX12_withByte_194 rfl (lv_at hl 4 rfl) ?_
                    refine lv_ixor hx hb dX12_withByte_195 ?_
                    exact J_196 (x_43 ^^^ x1) (by (try simp only [if_neg c_168, if_neg c_182])) _ _ hP hD hS ls (lv_sub hl [2, 3, 4, 5, 1, 0] rfl)
                  · skip
                    refine lv_iload hx hb dX12_withByte_185 (lv_at hl 0 rfl) ?_
                    refine lv_iload_n hx hb dX12_withByte_187 rfl (lv_at hl 4 rfl) ?_
                    refine lv_ior hx hb dX12_withByte_188 ?_
                    refine lv_goto (tgt := 196) hx hb dX12_withByte_189 (by decide) ?_
                    exact J_196 (x_43 ||| x1) (by (try simp only [if_neg c_168, if_pos c_182])) _ _ hP hD hS ls (lv_sub hl [2, 3, 4, 5, 1, 0] rfl)
                · skip
                  refine lv_iload hx hb dX12_withByte_171 (lv_at hl 0 rfl) ?_
                  refine lv_iload_n hx hb dX12_withByte_173 rfl (lv_at hl 4 rfl) ?_
                  refine lv_iand hx hb dX12_withByte_174 ?_
                  refine lv_goto (tgt := 196) hx hb dX12_withByte_175 (by decide) ?_
                  exact J_196 (x_43 &&& x1) (by (try simp only [if_pos c_168])) _ _ hP hD hS ls (lv_sub hl [2, 3, 4, 5, 1, 0] rfl)
    · skip
      have hf9 : (v_cond, u_26, v_mF) = fX12_withByte x0 x1 x2 v_key v_cond v_wrong v_mF v_mkF := by simp only [fX12_withByte, ← em_19, ← eu_26]; (try simp only [if_neg c_33])
      exact W.vret hx hb hr (fun t9 ht9 hW9 => ⟨⟨(v_cond, u_26, v_mF), rfl, hf9, ⟨by rw [ht9]; exact hP, va_K.moved hW9.alike hK, hD⟩⟩, hS.F ht9⟩) hS.2.2 dX12_withByte_36
  refine lv_icmp_eq (tgt := 18) hx hb dX12_withByte_4 (by decide) (fun c_4 => ?_) (fun c_4 => ?_)
  · skip
    refine lv_iconst (v := 0) hx hb dX12_withByte_18 (by decide) ?_
    exact J_19 0 (by (try simp only [if_pos c_4])) _ _ hP hD hS ls (lv_sub hl [0, 1, 2, 3] rfl)
  · skip
    refine lv_iload_n hx hb dX12_withByte_7 rfl (lv_at hl 1 rfl) ?_
    refine lv_sipush (v := 149) hx hb dX12_withByte_8 (by decide) ?_
    refine lv_icmp_eq (tgt := 18) hx hb dX12_withByte_11 (by decide) (fun c_11 => ?_) (fun c_11 => ?_)
    · skip
      refine lv_iconst (v := 0) hx hb dX12_withByte_18 (by decide) ?_
      exact J_19 0 (by (try simp only [if_neg c_4, if_pos c_11])) _ _ hP hD hS ls (lv_sub hl [0, 1, 2, 3] rfl)
    · skip
      refine lv_iconst (v := 1) hx hb dX12_withByte_14 (by decide) ?_
      refine lv_goto (tgt := 19) hx hb dX12_withByte_15 (by decide) ?_
      exact J_19 1 (by (try simp only [if_neg c_4, if_neg c_11])) _ _ hP hD hS ls (lv_sub hl [0, 1, 2, 3] rfl)
theorem hdX12_withByte : yX12_withByte.cls = RX12 ∧ yX12_withByte.cls ≠ "java/lang/invoke/MethodHandle" ∧ yX12_withByte.cls ≠ "java/lang/invoke/VarHandle" ∧ (parseMethodDescriptor yX12_withByte.desc).map (fun d => d.parameters.length) = some 3 := by decide +kernel
noncomputable def fX12_stored (x0 : Int32) (v_mask : Int32) (v_key : Int32) (v_wait : Int32) (v_problem : Int32) (v_code : Int32) (v_length : Int32) (v_cond : Int32) (v_masks : Int32) (v_addr : Int32) (v_wrong : Int32) (v_after : Int32) (v_mF : (Nat → Int32)) (v_mkF : (Nat → Int32)) (v_mrF : (Nat → Int32)) (v_wdF : (Nat → Int32)) : (Int32 × Int32 × Int32 × Int32 × Int32 × Int32 × Int32 × Int32 × Int32 × Int32 × Int32 × (Nat → Int32) × (Nat → Int32)) :=
  let x_8 := ((v_wdF (1 : Int32).toNatClampNeg) >>> (4 &&& 31))
  let x_18 := ((v_wdF (1 : Int32).toNatClampNeg) &&& 15)
  let r_21 := fX12_based 2 v_mrF v_wdF
  if x0 < 136 then (if x0 = 134 then (let u_74 := fX12_loop x0 x_8 x_18 r_21 v_addr v_mrF; (v_mask, v_key, v_wait, v_problem, v_code, v_length, v_cond, v_masks, u_74.1, v_wrong, v_after, v_mF, u_74.2)) else (if x0 = 135 then (let u_74 := fX12_loop x0 x_8 x_18 r_21 v_addr v_mrF; (v_mask, v_key, v_wait, v_problem, v_code, v_length, v_cond, v_masks, u_74.1, v_wrong, v_after, v_mF, u_74.2)) else (if x0 = 144 then (let u_111 := fX12_many x_8 x_18 r_21 1 v_key v_wrong v_mF v_mkF v_mrF; (v_mask, v_key, v_wait, v_problem, v_code, v_length, v_cond, v_masks, v_addr, u_111.1, v_after, u_111.2.1, u_111.2.2)) else (if x0 = 152 then (let u_111 := fX12_many x_8 x_18 r_21 0 v_key v_wrong v_mF v_mkF v_mrF; (v_mask, v_key, v_wait, v_problem, v_code, v_length, v_cond, v_masks, v_addr, u_111.1, v_after, u_111.2.1, u_111.2.2)) else (if x0 < 145 then (if x0 = 128 then (let u_155 := fX12_supervisor v_problem v_wrong; let u_163 := fX12_look r_21 1 0 v_key u_155 v_mkF; let m_188 : Int32 := (if u_163 ≤ 0 then ((v_mF (r_21 : Int32).toNatClampNeg)) else (v_mask)); (m_188, v_key, v_wait, v_problem, v_code, v_length, v_cond, v_masks, v_addr, u_163, v_after, v_mF, v_mrF)) else (if x0 = 130 then (let u_202 := fX12_supervisor v_problem v_wrong; let u_211 := fX12_look r_21 8 0 v_key u_202 v_mkF; let u_219 := fX12_even r_21 8 u_211; if u_219 = 0 then (let r_235 := fX12_fetch r_21 8 v_mF; let u_238 := fX12_become r_235 v_mask v_key v_wait v_problem v_code v_length v_cond v_masks v_addr; (u_238.1, u_238.2.1, u_238.2.2.1, u_238.2.2.2.1, u_238.2.2.2.2.1, u_238.2.2.2.2.2.1, u_238.2.2.2.2.2.2.1, u_238.2.2.2.2.2.2.2.1, u_238.2.2.2.2.2.2.2.2, u_219, v_after, v_mF, v_mrF)) else ((v_mask, v_key, v_wait, v_problem, v_code, v_length, v_cond, v_masks, v_addr, u_219, v_after, v_mF, v_mrF))) else (let u_246 := fX12_meet 1 v_wrong; (v_mask, v_key, v_wait, v_problem, v_code, v_length, v_cond, v_masks, v_addr, u_246, v_after, v_mF, v_mrF)))) else (if 151 < x0 then (if x0 = 128 then (let u_155 := fX12_supervisor v_problem v_wrong; let u_163 := fX12_look r_21 1 0 v_key u_155 v_mkF; let m_188 : Int32 := (if u_163 ≤ 0 then ((v_mF (r_21 : Int32).toNatClampNeg)) else (v_mask)); (m_188, v_key, v_wait, v_problem, v_code, v_length, v_cond, v_masks, v_addr, u_163, v_after, v_mF, v_mrF)) else (if x0 = 130 then (let u_202 := fX12_supervisor v_problem v_wrong; let u_211 := fX12_look r_21 8 0 v_key u_202 v_mkF; let u_219 := fX12_even r_21 8 u_211; if u_219 = 0 then (let r_235 := fX12_fetch r_21 8 v_mF; let u_238 := fX12_become r_235 v_mask v_key v_wait v_problem v_code v_length v_cond v_masks v_addr; (u_238.1, u_238.2.1, u_238.2.2.1, u_238.2.2.2.1, u_238.2.2.2.2.1, u_238.2.2.2.2.2.1, u_238.2.2.2.2.2.2.1, u_238.2.2.2.2.2.2.2.1, u_238.2.2.2.2.2.2.2.2, u_219, v_after, v_mF, v_mrF)) else ((v_mask, v_key, v_wait, v_problem, v_code, v_length, v_cond, v_masks, v_addr, u_219, v_after, v_mF, v_mrF))) else (let u_246 := fX12_meet 1 v_wrong; (v_mask, v_key, v_wait, v_problem, v_code, v_length, v_cond, v_masks, v_addr, u_246, v_after, v_mF, v_mrF)))) else (let u_141 := fX12_withByte x0 (v_wdF (1 : Int32).toNatClampNeg) r_21 v_key v_cond v_wrong v_mF v_mkF; (v_mask, v_key, v_wait, v_problem, v_code, v_length, u_141.1, v_masks, v_addr, u_141.2.1, v_after, u_141.2.2, v_mrF)))))))) else (if 144 ≤ x0 then (if x0 = 134 then (let u_74 := fX12_loop x0 x_8 x_18 r_21 v_addr v_mrF; (v_mask, v_key, v_wait, v_problem, v_code, v_length, v_cond, v_masks, u_74.1, v_wrong, v_after, v_mF, u_74.2)) else (if x0 = 135 then (let u_74 := fX12_loop x0 x_8 x_18 r_21 v_addr v_mrF; (v_mask, v_key, v_wait, v_problem, v_code, v_length, v_cond, v_masks, u_74.1, v_wrong, v_after, v_mF, u_74.2)) else (if x0 = 144 then (let u_111 := fX12_many x_8 x_18 r_21 1 v_key v_wrong v_mF v_mkF v_mrF; (v_mask, v_key, v_wait, v_problem, v_code, v_length, v_cond, v_masks, v_addr, u_111.1, v_after, u_111.2.1, u_111.2.2)) else (if x0 = 152 then (let u_111 := fX12_many x_8 x_18 r_21 0 v_key v_wrong v_mF v_mkF v_mrF; (v_mask, v_key, v_wait, v_problem, v_code, v_length, v_cond, v_masks, v_addr, u_111.1, v_after, u_111.2.1, u_111.2.2)) else (if x0 < 145 then (if x0 = 128 then (let u_155 := fX12_supervisor v_problem v_wrong; let u_163 := fX12_look r_21 1 0 v_key u_155 v_mkF; let m_188 : Int32 := (if u_163 ≤ 0 then ((v_mF (r_21 : Int32).toNatClampNeg)) else (v_mask)); (m_188, v_key, v_wait, v_problem, v_code, v_length, v_cond, v_masks, v_addr, u_163, v_after, v_mF, v_mrF)) else (if x0 = 130 then (let u_202 := fX12_supervisor v_problem v_wrong; let u_211 := fX12_look r_21 8 0 v_key u_202 v_mkF; let u_219 := fX12_even r_21 8 u_211; if u_219 = 0 then (let r_235 := fX12_fetch r_21 8 v_mF; let u_238 := fX12_become r_235 v_mask v_key v_wait v_problem v_code v_length v_cond v_masks v_addr; (u_238.1, u_238.2.1, u_238.2.2.1, u_238.2.2.2.1, u_238.2.2.2.2.1, u_238.2.2.2.2.2.1, u_238.2.2.2.2.2.2.1, u_238.2.2.2.2.2.2.2.1, u_238.2.2.2.2.2.2.2.2, u_219, v_after, v_mF, v_mrF)) else ((v_mask, v_key, v_wait, v_problem, v_code, v_length, v_cond, v_masks, v_addr, u_219, v_after, v_mF, v_mrF))) else (let u_246 := fX12_meet 1 v_wrong; (v_mask, v_key, v_wait, v_problem, v_code, v_length, v_cond, v_masks, v_addr, u_246, v_after, v_mF, v_mrF)))) else (if 151 < x0 then (if x0 = 128 then (let u_155 := fX12_supervisor v_problem v_wrong; let u_163 := fX12_look r_21 1 0 v_key u_155 v_mkF; let m_188 : Int32 := (if u_163 ≤ 0 then ((v_mF (r_21 : Int32).toNatClampNeg)) else (v_mask)); (m_188, v_key, v_wait, v_problem, v_code, v_length, v_cond, v_masks, v_addr, u_163, v_after, v_mF, v_mrF)) else (if x0 = 130 then (let u_202 := fX12_supervisor v_problem v_wrong; let u_211 := fX12_look r_21 8 0 v_key u_202 v_mkF; let u_219 := fX12_even r_21 8 u_211; if u_219 = 0 then (let r_235 := fX12_fetch r_21 8 v_mF; let u_238 := fX12_become r_235 v_mask v_key v_wait v_problem v_code v_length v_cond v_masks v_addr; (u_238.1, u_238.2.1, u_238.2.2.1, u_238.2.2.2.1, u_238.2.2.2.2.1, u_238.2.2.2.2.2.1, u_238.2.2.2.2.2.2.1, u_238.2.2.2.2.2.2.2.1, u_238.2.2.2.2.2.2.2.2, u_219, v_after, v_mF, v_mrF)) else ((v_mask, v_key, v_wait, v_problem, v_code, v_length, v_cond, v_masks, v_addr, u_219, v_after, v_mF, v_mrF))) else (let u_246 := fX12_meet 1 v_wrong; (v_mask, v_key, v_wait, v_problem, v_code, v_length, v_cond, v_masks, v_addr, u_246, v_after, v_mF, v_mrF)))) else (let u_141 := fX12_withByte x0 (v_wdF (1 : Int32).toNatClampNeg) r_21 v_key v_cond v_wrong v_mF v_mkF; (v_mask, v_key, v_wait, v_problem, v_code, v_length, u_141.1, v_masks, v_addr, u_141.2.1, v_after, u_141.2.2, v_mrF)))))))) else (let u_48 := fX12_shift x0 x_8 (r_21 &&& 63) v_cond v_masks v_wrong v_after v_mrF; (v_mask, v_key, v_wait, v_problem, v_code, v_length, u_48.1, v_masks, v_addr, u_48.2.1, u_48.2.2.1, v_mF, u_48.2.2.2)))
abbrev wX12_stored (cI cB : ClassId) (a_mo a_mem a_mks a_mr a_cnt a_wd a_one a_two a_mmade a_mrest a_old : Nat) (v_thrown : Int32) (v_mask : Int32) (v_key : Int32) (v_wait : Int32) (v_problem : Int32) (v_code : Int32) (v_length : Int32) (v_cond : Int32) (v_masks : Int32) (v_addr : Int32) (v_mwanted : Int32) (v_wrong : Int32) (v_after : Int32) (v_calls : Int32) (v_oneB : Int32) (v_twoB : Int32) (v_mF : (Nat → Int32)) (v_mkF : (Nat → Int32)) (v_mrF : (Nat → Int32)) (v_wdF : (Nat → Int32)) : va_W := [(a_mo, .inr (12, [.int v_thrown, .ref a_mem, .ref a_mks, .ref a_mr, .int v_mask, .int v_key, .int v_wait, .int v_problem, .int v_code, .int v_length, .int v_cond, .int v_masks, .int v_addr, .int v_mwanted, .ref a_cnt, .ref a_wd, .int v_wrong, .int v_after, .int v_calls, .ref a_one, .int v_oneB, .ref a_two, .int v_twoB, .ref a_mmade, .ref a_mrest, .ref a_old])), (a_mem, .inl (cI, 8192, .inl v_mF)), (a_mks, .inl (cI, 4, .inl v_mkF)), (a_mr, .inl (cI, 16, .inl v_mrF)), (a_wd, .inl (cI, 6, .inl v_wdF))]
abbrev rmX12_stored : Room := { frames := 3, cells := 0, slots := 0, locals := 77 }
abbrev qX12_stored (D : va_G) (cI cB : ClassId) (a_mo a_mem a_mks a_mr a_cnt a_wd a_one a_two a_mmade a_mrest a_old : Nat) (v_thrown : Int32) (v_mask : Int32) (v_key : Int32) (v_wait : Int32) (v_problem : Int32) (v_code : Int32) (v_length : Int32) (v_cond : Int32) (v_masks : Int32) (v_addr : Int32) (v_mwanted : Int32) (v_wrong : Int32) (v_after : Int32) (v_calls : Int32) (v_oneB : Int32) (v_twoB : Int32) (v_mF : (Nat → Int32)) (v_mkF : (Nat → Int32)) (v_mrF : (Nat → Int32)) (v_wdF : (Nat → Int32)) (x0 : Int32) : (Nat → Prop) → Array Value → State → Outcome → State → Prop := fun A9 => va_Qv (fun (u9 : (Int32 × Int32 × Int32 × Int32 × Int32 × Int32 × Int32 × Int32 × Int32 × Int32 × Int32 × (Nat → Int32) × (Nat → Int32))) => u9 = fX12_stored x0 v_mask v_key v_wait v_problem v_code v_length v_cond v_masks v_addr v_wrong v_after v_mF v_mkF v_mrF v_wdF) (fun u9 t9 => atW D (TYS cI cB) A9 (wX12_stored cI cB a_mo a_mem a_mks a_mr a_cnt a_wd a_one a_two a_mmade a_mrest a_old v_thrown u9.1 u9.2.1 u9.2.2.1 u9.2.2.2.1 u9.2.2.2.2.1 u9.2.2.2.2.2.1 u9.2.2.2.2.2.2.1 u9.2.2.2.2.2.2.2.1 u9.2.2.2.2.2.2.2.2.1 v_mwanted u9.2.2.2.2.2.2.2.2.2.1 u9.2.2.2.2.2.2.2.2.2.2.1 v_calls v_oneB v_twoB u9.2.2.2.2.2.2.2.2.2.2.2.1 v_mkF u9.2.2.2.2.2.2.2.2.2.2.2.2 v_wdF) t9) A9
set_option maxHeartbeats 4000000 in
set_option maxRecDepth 100000 in
theorem kX12_stored (l : Launch) (D : va_G) (cI cB : ClassId) (a_mo a_mem a_mks a_mr a_cnt a_wd a_one a_two a_mmade a_mrest a_old : Nat) (sz : Nat) (v_thrown : Int32) (v_mask : Int32) (v_key : Int32) (v_wait : Int32) (v_problem : Int32) (v_code : Int32) (v_length : Int32) (v_cond : Int32) (v_masks : Int32) (v_addr : Int32) (v_mwanted : Int32) (v_wrong : Int32) (v_after : Int32) (v_calls : Int32) (v_oneB : Int32) (v_twoB : Int32) (v_mF : (Nat → Int32)) (v_mkF : (Nat → Int32)) (v_mrF : (Nat → Int32)) (v_wdF : (Nat → Int32)) (x0 : Int32) (hW : wdOk v_wdF) (hw : 0 ≤ v_wrong) : MetW l yX12_stored (WK yX12_stored cX12_stored 5 none) rmX12_stored D (TYS cI cB) (wX12_stored cI cB a_mo a_mem a_mks a_mr a_cnt a_wd a_one a_two a_mmade a_mrest a_old v_thrown v_mask v_key v_wait v_problem v_code v_length v_cond v_masks v_addr v_mwanted v_wrong v_after v_calls v_oneB v_twoB v_mF v_mkF v_mrF v_wdF) sz [.ref a_mo, .int x0] (qX12_stored D cI cB a_mo a_mem a_mks a_mr a_cnt a_wd a_one a_two a_mmade a_mrest a_old v_thrown v_mask v_key v_wait v_problem v_code v_length v_cond v_masks v_addr v_mwanted v_wrong v_after v_calls v_oneB v_twoB v_mF v_mkF v_mrF v_wdF x0) 0 0 := by
  refine met_std (by decide) rfl (Nat.le_of_ble_eq_true rfl) ?_
  intro p e s m below meth c A ls H hx hb hr hml hown hts hlocks hA hP hK hD hS hNW hl
  have hl : lv_has ls 5 [(0, .ref a_mo), (1, .int x0)] := hl
  have q_0 := hts _ (List.mem_cons_of_mem _ wd_781)
  have q_1 := hts _ (List.mem_cons_of_mem _ wd_836)
  have q_2 := hts _ (List.mem_cons_of_mem _ wd_777)
  have q_3 := hts _ (List.mem_cons_of_mem _ wd_796)
  refine lv_aload_n hx hb dX12_stored_0 rfl (lv_at hl 0 rfl) ?_
  refine va_get (D := D) (ci := 12) (v := .ref a_wd) (C := RX12) (T := TX12) (N := 26) hx hb hts in_X12 hown hK hP 0 rfl rfl 15 (by decide) q_0 (fun _ h9 => h9) rfl dX12_stored_1 ?_
  refine lv_iconst (v := 1) hx hb dX12_stored_4 (by decide) ?_
  refine va_iald hx hb hK hP 4 0 rfl rfl (by unfold vp_in; decide) dX12_stored_5 ?_
  refine lv_iconst (v := 4) hx hb dX12_stored_6 (by decide) ?_
  refine lv_ishr hx hb dX12_stored_7 ?_
  refine lv_topi (fun x_8 ex_8 => ?_)
  refine lv_istore_n (lv' := [(2, .int x_8), (0, .ref a_mo), (1, .int x0)]) hx hb dX12_stored_8 rfl hl (by decide) rfl (fun ls hl => ?_)
  refine lv_aload_n hx hb dX12_stored_9 rfl (lv_at hl 1 rfl) ?_
  refine va_get (D := D) (ci := 12) (v := .ref a_wd) (C := RX12) (T := TX12) (N := 26) hx hb hts in_X12 hown hK hP 0 rfl rfl 15 (by decide) q_0 (fun _ h9 => h9) rfl dX12_stored_10 ?_
  refine lv_iconst (v := 1) hx hb dX12_stored_13 (by decide) ?_
  refine va_iald hx hb hK hP 4 0 rfl rfl (by unfold vp_in; decide) dX12_stored_14 ?_
  refine lv_bipush (v := 15) hx hb dX12_stored_15 (by decide) ?_
  refine lv_iand hx hb dX12_stored_17 ?_
  refine lv_topi (fun x_18 ex_18 => ?_)
  refine lv_istore_n (lv' := [(3, .int x_18), (2, .int x_8), (0, .ref a_mo), (1, .int x0)]) hx hb dX12_stored_18 rfl hl (by decide) rfl (fun ls hl => ?_)
  refine lv_aload_n hx hb dX12_stored_19 rfl (lv_at hl 2 rfl) ?_
  refine lv_iconst (v := 2) hx hb dX12_stored_20 (by decide) ?_
  have hPc : va_P D vwCl (wX12_based cI cB a_mo a_mem a_mks a_mr a_cnt a_wd a_one a_two a_mmade a_mrest a_old v_thrown v_mask v_key v_wait v_problem v_code v_length v_cond v_masks v_addr v_mwanted v_wrong v_after v_calls v_oneB v_twoB v_mrF v_wdF) H := hP.sub [0, 3, 4] rfl
  have hDc : va_D A (wX12_based cI cB a_mo a_mem a_mks a_mr a_cnt a_wd a_one a_two a_mmade a_mrest a_old v_thrown v_mask v_key v_wait v_problem v_code v_length v_cond v_masks v_addr v_mwanted v_wrong v_after v_calls v_oneB v_twoB v_mrF v_wdF) := hD.sub [0, 3, 4] (by decide) rfl
  have hFc := va_free (wc := (wX12_based cI cB a_mo a_mem a_mks a_mr a_cnt a_wd a_one a_two a_mmade a_mrest a_old v_thrown v_mask v_key v_wait v_problem v_code v_length v_cond v_masks v_addr v_mwanted v_wrong v_after v_calls v_oneB v_twoB v_mrF v_wdF)) hD hS hA [0, 3, 4] rfl
  refine va_calli (va_runV (As := [.int 2]) (rest := []) ⟨hx, hb, hml, hown, hts⟩ (kX12_based l D cI cB a_mo a_mem a_mks a_mr a_cnt a_wd a_one a_two a_mmade a_mrest a_old H.size v_thrown v_mask v_key v_wait v_problem v_code v_length v_cond v_masks v_addr v_mwanted v_wrong v_after v_calls v_oneB v_twoB v_mrF v_wdF 2 (by first | with_reducible assumption | decide | (unfold vp_in; decide)) (by first | with_reducible assumption | decide | (unfold vp_in; decide))) (cwV 1 hts (gd_V wd_853 wd_854 wd_855 wd_807 wd_851) rfl rfl rfl hdX12_based ⟨Nat.le_of_ble_eq_true rfl, Nat.le_of_ble_eq_true rfl⟩) (preV_std (ci := 12) (q0 := 0) hPc hK hDc hNW rfl rfl) rfl rfl hl.1 rfl (lv_room (Nat.le_of_ble_eq_true rfl)) dX12_stored_21 ⟨Nat.zero_le _, Nat.zero_le _⟩) hS (fun q _ h => hFc q h) hFc (fun r_21 u_21 t9 H1 locs ht9 hvm9 hw9 hB9 hz9 hk9 hS => ?_)
  have er_21 : r_21 = fX12_based 2 v_mrF v_wdF := hw9
  obtain ⟨hP, hD⟩ := back_std (w1 := (wX12_based cI cB a_mo a_mem a_mks a_mr a_cnt a_wd a_one a_two a_mmade a_mrest a_old v_thrown v_mask v_key v_wait v_problem v_code v_length v_cond v_masks v_addr v_mwanted v_wrong v_after v_calls v_oneB v_twoB v_mrF v_wdF)) (w2 := (wX12_stored cI cB a_mo a_mem a_mks a_mr a_cnt a_wd a_one a_two a_mmade a_mrest a_old v_thrown v_mask v_key v_wait v_problem v_code v_length v_cond v_masks v_addr v_mwanted v_wrong v_after v_calls v_oneB v_twoB v_mF v_mkF v_mrF v_wdF)) (wr := [(a_mem, .inl (cI, 8192, .inl v_mF)), (a_mks, .inl (cI, 4, .inl v_mkF))]) hP hD [0, 3, 4] [1, 2] [2, 0, 1, 3, 4] rfl rfl (by decide) (by decide) hk9 hFc hB9 ht9 (by decide) rfl
  clear hB9 hk9 hz9 hvm9 ht9 hFc hPc hDc
  generalize H1 = H at hP hS ⊢
  refine lv_istore (lv' := [(4, .int r_21), (3, .int x_18), (2, .int x_8), (0, .ref a_mo), (1, .int x0)]) hx hb dX12_stored_24 hl (by decide) rfl (fun ls hl => ?_)
  have hk : vp_in x_8 16 := nib ex_8 (hW _ (by decide))
  have hs : vp_in x_18 16 := by rw [ex_18]; exact pk_andIn _ 4 (by decide) (by decide)
  have ha : in24 r_21 := based24 er_21
  refine lv_iload_n hx hb dX12_stored_26 rfl (lv_at hl 4 rfl) ?_
  refine lv_sipush (v := 136) hx hb dX12_stored_27 (by decide) ?_
  refine lv_icmp_lt (tgt := 54) hx hb dX12_stored_30 (by decide) (fun c_30 => ?_) (fun c_30 => ?_)
  · skip
    refine lv_iload_n hx hb dX12_stored_54 rfl (lv_at hl 4 rfl) ?_
    refine lv_sipush (v := 134) hx hb dX12_stored_55 (by decide) ?_
    refine lv_icmp_eq (tgt := 68) hx hb dX12_stored_58 (by decide) (fun c_58 => ?_) (fun c_58 => ?_)
    · skip
      refine lv_aload_n hx hb dX12_stored_68 rfl (lv_at hl 3 rfl) ?_
      refine lv_iload_n hx hb dX12_stored_69 rfl (lv_at hl 4 rfl) ?_
      refine lv_iload_n hx hb dX12_stored_70 rfl (lv_at hl 2 rfl) ?_
      refine lv_iload_n hx hb dX12_stored_71 rfl (lv_at hl 1 rfl) ?_
      refine lv_iload hx hb dX12_stored_72 (lv_at hl 0 rfl) ?_
      have hPc : va_P D vwCl (wX12_loop cI cB a_mo a_mem a_mks a_mr a_cnt a_wd a_one a_two a_mmade a_mrest a_old v_thrown v_mask v_key v_wait v_problem v_code v_length v_cond v_masks v_addr v_mwanted v_wrong v_after v_calls v_oneB v_twoB v_mrF) H := hP.sub [0, 3] rfl
      have hDc : va_D A (wX12_loop cI cB a_mo a_mem a_mks a_mr a_cnt a_wd a_one a_two a_mmade a_mrest a_old v_thrown v_mask v_key v_wait v_problem v_code v_length v_cond v_masks v_addr v_mwanted v_wrong v_after v_calls v_oneB v_twoB v_mrF) := hD.sub [0, 3] (by decide) rfl
      have hFc := va_free (wc := (wX12_loop cI cB a_mo a_mem a_mks a_mr a_cnt a_wd a_one a_two a_mmade a_mrest a_old v_thrown v_mask v_key v_wait v_problem v_code v_length v_cond v_masks v_addr v_mwanted v_wrong v_after v_calls v_oneB v_twoB v_mrF)) hD hS hA [0, 3] rfl
      refine va_callv (va_runV (As := [.int x0, .int x_8, .int x_18, .int r_21]) (rest := []) ⟨hx, hb, hml, hown, hts⟩ (kX12_loop l D cI cB a_mo a_mem a_mks a_mr a_cnt a_wd a_one a_two a_mmade a_mrest a_old H.size v_thrown v_mask v_key v_wait v_problem v_code v_length v_cond v_masks v_addr v_mwanted v_wrong v_after v_calls v_oneB v_twoB v_mrF x0 x_8 x_18 r_21 (by first | with_reducible assumption | decide | (unfold vp_in; decide)) (by first | with_reducible assumption | decide | (unfold vp_in; decide))) (cwV 4 hts (gd_V wd_962 wd_963 wd_964 wd_807 wd_956) rfl rfl rfl hdX12_loop ⟨Nat.le_of_ble_eq_true rfl, Nat.le_of_ble_eq_true rfl⟩) (preV_std (ci := 12) (q0 := 0) hPc hK hDc hNW rfl rfl) rfl rfl hl.1 rfl (lv_room (Nat.le_of_ble_eq_true rfl)) dX12_stored_74 ⟨Nat.zero_le _, Nat.zero_le _⟩) hS (fun q _ h => hFc q h) hFc (fun u_74 t9 H1 locs ht9 hvm9 hw9 hB9 hz9 hk9 hS => ?_)
      have eu_74 : u_74 = fX12_loop x0 x_8 x_18 r_21 v_addr v_mrF := hw9
      obtain ⟨hP, hD⟩ := back_std (w1 := (wX12_loop cI cB a_mo a_mem a_mks a_mr a_cnt a_wd a_one a_two a_mmade a_mrest a_old v_thrown v_mask v_key v_wait v_problem v_code v_length v_cond v_masks u_74.1 v_mwanted v_wrong v_after v_calls v_oneB v_twoB u_74.2)) (w2 := (wX12_stored cI cB a_mo a_mem a_mks a_mr a_cnt a_wd a_one a_two a_mmade a_mrest a_old v_thrown v_mask v_key v_wait v_problem v_code v_length v_cond v_masks u_74.1 v_mwanted v_wrong v_after v_calls v_oneB v_twoB v_mF v_mkF u_74.2 v_wdF)) (wr := [(a_mem, .inl (cI, 8192, .inl v_mF)), (a_mks, .inl (cI, 4, .inl v_mkF)), (a_wd, .inl (cI, 6, .inl v_wdF))]) hP hD [0, 3] [1, 2, 4] [3, 0, 1, 4, 2] rfl rfl (by decide) (by decide) hk9 hFc hB9 ht9 (by decide) rfl
      clear hB9 hk9 hz9 hvm9 ht9 hFc hPc hDc
      generalize H1 = H at hP hS ⊢
      refine lv_goto (tgt := 249) hx hb dX12_stored_77 (by decide) ?_
      have hf9 : (v_mask, v_key, v_wait, v_problem, v_code, v_length, v_cond, v_masks, u_74.1, v_wrong, v_after, v_mF, u_74.2) = fX12_stored x0 v_mask v_key v_wait v_problem v_code v_length v_cond v_masks v_addr v_wrong v_after v_mF v_mkF v_mrF v_wdF := by subst ex_18; subst ex_8; simp only [fX12_stored, ← er_21, ← eu_74]; (try simp only [if_pos c_30, if_pos c_58])
      exact W.vret hx hb hr (fun t9 ht9 hW9 => ⟨⟨(v_mask, v_key, v_wait, v_problem, v_code, v_length, v_cond, v_masks, u_74.1, v_wrong, v_after, v_mF, u_74.2), rfl, hf9, ⟨by rw [ht9]; exact hP, va_K.moved hW9.alike hK, hD⟩⟩, hS.F ht9⟩) hS.2.2 dX12_stored_249
    · skip
      refine lv_iload_n hx hb dX12_stored_61 rfl (lv_at hl 4 rfl) ?_
      refine lv_sipush (v := 135) hx hb dX12_stored_62 (by decide) ?_
      refine lv_icmp_ne (tgt := 80) hx hb dX12_stored_65 (by decide) (fun c_65 => ?_) (fun c_65 => ?_)
      · skip
        refine lv_iload_n hx hb dX12_stored_80 rfl (lv_at hl 4 rfl) ?_
        refine lv_sipush (v := 144) hx hb dX12_stored_81 (by decide) ?_
        refine lv_icmp_eq (tgt := 94) hx hb dX12_stored_84 (by decide) (fun c_84 => ?_) (fun c_84 => ?_)
        · skip
          refine lv_aload_n hx hb dX12_stored_94 rfl (lv_at hl 3 rfl) ?_
          refine lv_iload_n hx hb dX12_stored_95 rfl (lv_at hl 2 rfl) ?_
          refine lv_iload_n hx hb dX12_stored_96 rfl (lv_at hl 1 rfl) ?_
          refine lv_iload hx hb dX12_stored_97 (lv_at hl 0 rfl) ?_
          refine lv_iload_n hx hb dX12_stored_99 rfl (lv_at hl 4 rfl) ?_
          refine lv_sipush (v := 144) hx hb dX12_stored_100 (by decide) ?_
          refine lv_icmp_ne (tgt := 110) hx hb dX12_stored_103 (by decide) (fun c_103 => ?_) (fun c_103 => ?_)
          · skip
            exact absurd c_84 c_103
          · skip
            refine lv_iconst (v := 1) hx hb dX12_stored_106 (by decide) ?_
            refine lv_goto (tgt := 111) hx hb dX12_stored_107 (by decide) ?_
            have hPc : va_P D vwCl (wX12_many cI cB a_mo a_mem a_mks a_mr a_cnt a_wd a_one a_two a_mmade a_mrest a_old v_thrown v_mask v_key v_wait v_problem v_code v_length v_cond v_masks v_addr v_mwanted v_wrong v_after v_calls v_oneB v_twoB v_mF v_mkF v_mrF) H := hP.sub [0, 1, 2, 3] rfl
            have hDc : va_D A (wX12_many cI cB a_mo a_mem a_mks a_mr a_cnt a_wd a_one a_two a_mmade a_mrest a_old v_thrown v_mask v_key v_wait v_problem v_code v_length v_cond v_masks v_addr v_mwanted v_wrong v_after v_calls v_oneB v_twoB v_mF v_mkF v_mrF) := hD.sub [0, 1, 2, 3] (by decide) rfl
            have hFc := va_free (wc := (wX12_many cI cB a_mo a_mem a_mks a_mr a_cnt a_wd a_one a_two a_mmade a_mrest a_old v_thrown v_mask v_key v_wait v_problem v_code v_length v_cond v_masks v_addr v_mwanted v_wrong v_after v_calls v_oneB v_twoB v_mF v_mkF v_mrF)) hD hS hA [0, 1, 2, 3] rfl
            refine va_callv (va_runV (As := [.int x_8, .int x_18, .int r_21, .int 1]) (rest := []) ⟨hx, hb, hml, hown, hts⟩ (kX12_many l D cI cB a_mo a_mem a_mks a_mr a_cnt a_wd a_one a_two a_mmade a_mrest a_old H.size v_thrown v_mask v_key v_wait v_problem v_code v_length v_cond v_masks v_addr v_mwanted v_wrong v_after v_calls v_oneB v_twoB v_mF v_mkF v_mrF x_8 x_18 r_21 1 (by first | with_reducible assumption | decide | (unfold vp_in; decide)) (by first | with_reducible assumption | decide | (unfold vp_in; decide))) (cwV 4 hts (gd_V wd_965 wd_966 wd_967 wd_807 wd_957) rfl rfl rfl hdX12_many ⟨Nat.le_of_ble_eq_true rfl, Nat.le_of_ble_eq_true rfl⟩) (preV_std (ci := 12) (q0 := 0) hPc hK hDc hNW rfl rfl) rfl rfl hl.1 rfl (lv_room (Nat.le_of_ble_eq_true rfl)) dX12_stored_111 ⟨Nat.zero_le _, Nat.zero_le _⟩) hS (fun q _ h => hFc q h) hFc (fun u_111 t9 H1 locs ht9 hvm9 hw9 hB9 hz9 hk9 hS => ?_)
            have eu_111 : u_111 = fX12_many x_8 x_18 r_21 1 v_key v_wrong v_mF v_mkF v_mrF := hw9
            obtain ⟨hP, hD⟩ := back_std (w1 := (wX12_many cI cB a_mo a_mem a_mks a_mr a_cnt a_wd a_one a_two a_mmade a_mrest a_old v_thrown v_mask v_key v_wait v_problem v_code v_length v_cond v_masks v_addr v_mwanted u_111.1 v_after v_calls v_oneB v_twoB u_111.2.1 v_mkF u_111.2.2)) (w2 := (wX12_stored cI cB a_mo a_mem a_mks a_mr a_cnt a_wd a_one a_two a_mmade a_mrest a_old v_thrown v_mask v_key v_wait v_problem v_code v_length v_cond v_masks v_addr v_mwanted u_111.1 v_after v_calls v_oneB v_twoB u_111.2.1 v_mkF u_111.2.2 v_wdF)) (wr := [(a_wd, .inl (cI, 6, .inl v_wdF))]) hP hD [0, 1, 2, 3] [4] [1, 2, 3, 4, 0] rfl rfl (by decide) (by decide) hk9 hFc hB9 ht9 (by decide) rfl
            clear hB9 hk9 hz9 hvm9 ht9 hFc hPc hDc
            generalize H1 = H at hP hS ⊢
            refine lv_goto (tgt := 249) hx hb dX12_stored_114 (by decide) ?_
            have hf9 : (v_mask, v_key, v_wait, v_problem, v_code, v_length, v_cond, v_masks, v_addr, u_111.1, v_after, u_111.2.1, u_111.2.2) = fX12_stored x0 v_mask v_key v_wait v_problem v_code v_length v_cond v_masks v_addr v_wrong v_after v_mF v_mkF v_mrF v_wdF := by subst ex_18; subst ex_8; simp only [fX12_stored, ← er_21, ← eu_111]; (try simp only [if_pos c_30, if_neg c_58, if_neg c_65, if_pos c_84])
            exact W.vret hx hb hr (fun t9 ht9 hW9 => ⟨⟨(v_mask, v_key, v_wait, v_problem, v_code, v_length, v_cond, v_masks, v_addr, u_111.1, v_after, u_111.2.1, u_111.2.2), rfl, hf9, ⟨by rw [ht9]; exact hP, va_K.moved hW9.alike hK, hD⟩⟩, hS.F ht9⟩) hS.2.2 dX12_stored_249
        · skip
          refine lv_iload_n hx hb dX12_stored_87 rfl (lv_at hl 4 rfl) ?_
          refine lv_sipush (v := 152) hx hb dX12_stored_88 (by decide) ?_
          refine lv_icmp_ne (tgt := 117) hx hb dX12_stored_91 (by decide) (fun c_91 => ?_) (fun c_91 => ?_)
          · skip
            refine lv_iload_n hx hb dX12_stored_117 rfl (lv_at hl 4 rfl) ?_
            refine lv_sipush (v := 145) hx hb dX12_stored_118 (by decide) ?_
            refine lv_icmp_lt (tgt := 147) hx hb dX12_stored_121 (by decide) (fun c_121 => ?_) (fun c_121 => ?_)
            · skip
              refine lv_iload_n hx hb dX12_stored_147 rfl (lv_at hl 4 rfl) ?_
              refine lv_sipush (v := 128) hx hb dX12_stored_148 (by decide) ?_
              refine lv_icmp_ne (tgt := 194) hx hb dX12_stored_151 (by decide) (fun c_151 => ?_) (fun c_151 => ?_)
              · skip
                refine lv_iload_n hx hb dX12_stored_194 rfl (lv_at hl 4 rfl) ?_
                refine lv_sipush (v := 130) hx hb dX12_stored_195 (by decide) ?_
                refine lv_icmp_ne (tgt := 244) hx hb dX12_stored_198 (by decide) (fun c_198 => ?_) (fun c_198 => ?_)
                · skip
                  refine lv_aload_n hx hb dX12_stored_244 rfl (lv_at hl 3 rfl) ?_
                  refine lv_iconst (v := 1) hx hb dX12_stored_245 (by decide) ?_
                  have hPc : va_P D vwCl (wX12_meet cI cB a_mo a_mem a_mks a_mr a_cnt a_wd a_one a_two a_mmade a_mrest a_old v_thrown v_mask v_key v_wait v_problem v_code v_length v_cond v_masks v_addr v_mwanted v_wrong v_after v_calls v_oneB v_twoB) H := hP.sub [0] rfl
                  have hDc : va_D A (wX12_meet cI cB a_mo a_mem a_mks a_mr a_cnt a_wd a_one a_two a_mmade a_mrest a_old v_thrown v_mask v_key v_wait v_problem v_code v_length v_cond v_masks v_addr v_mwanted v_wrong v_after v_calls v_oneB v_twoB) := hD.sub [0] (by decide) rfl
                  have hFc := va_free (wc := (wX12_meet cI cB a_mo a_mem a_mks a_mr a_cnt a_wd a_one a_two a_mmade a_mrest a_old v_thrown v_mask v_key v_wait v_problem v_code v_length v_cond v_masks v_addr v_mwanted v_wrong v_after v_calls v_oneB v_twoB)) hD hS hA [0] rfl
                  refine va_callv (va_runV (As := [.int 1]) (rest := []) ⟨hx, hb, hml, hown, hts⟩ (kX12_meet l D cI cB a_mo a_mem a_mks a_mr a_cnt a_wd a_one a_two a_mmade a_mrest a_old H.size v_thrown v_mask v_key v_wait v_problem v_code v_length v_cond v_masks v_addr v_mwanted v_wrong v_after v_calls v_oneB v_twoB 1) (cwV 1 hts (gd_V wd_838 wd_839 wd_840 wd_807 wd_835) rfl rfl rfl hdX12_meet ⟨Nat.le_of_ble_eq_true rfl, Nat.le_of_ble_eq_true rfl⟩) (preV_std (ci := 12) (q0 := 0) hPc hK hDc hNW rfl rfl) rfl rfl hl.1 rfl (lv_room (Nat.le_of_ble_eq_true rfl)) dX12_stored_246 ⟨Nat.zero_le _, Nat.zero_le _⟩) hS (fun q _ h => hFc q h) hFc (fun u_246 t9 H1 locs ht9 hvm9 hw9 hB9 hz9 hk9 hS => ?_)
                  have eu_246 : u_246 = fX12_meet 1 v_wrong := hw9
                  obtain ⟨hP, hD⟩ := back_std (w1 := (wX12_meet cI cB a_mo a_mem a_mks a_mr a_cnt a_wd a_one a_two a_mmade a_mrest a_old v_thrown v_mask v_key v_wait v_problem v_code v_length v_cond v_masks v_addr v_mwanted u_246 v_after v_calls v_oneB v_twoB)) (w2 := (wX12_stored cI cB a_mo a_mem a_mks a_mr a_cnt a_wd a_one a_two a_mmade a_mrest a_old v_thrown v_mask v_key v_wait v_problem v_code v_length v_cond v_masks v_addr v_mwanted u_246 v_after v_calls v_oneB v_twoB v_mF v_mkF v_mrF v_wdF)) (wr := [(a_mem, .inl (cI, 8192, .inl v_mF)), (a_mks, .inl (cI, 4, .inl v_mkF)), (a_mr, .inl (cI, 16, .inl v_mrF)), (a_wd, .inl (cI, 6, .inl v_wdF))]) hP hD [0] [1, 2, 3, 4] [4, 0, 1, 2, 3] rfl rfl (by decide) (by decide) hk9 hFc hB9 ht9 (by decide) rfl
                  clear hB9 hk9 hz9 hvm9 ht9 hFc hPc hDc
                  generalize H1 = H at hP hS ⊢
                  have hf9 : (v_mask, v_key, v_wait, v_problem, v_code, v_length, v_cond, v_masks, v_addr, u_246, v_after, v_mF, v_mrF) = fX12_stored x0 v_mask v_key v_wait v_problem v_code v_length v_cond v_masks v_addr v_wrong v_after v_mF v_mkF v_mrF v_wdF := by subst ex_18; subst ex_8; simp only [fX12_stored, ← er_21, ← eu_246]; (try simp only [if_pos c_30, if_neg c_58, if_neg c_65, if_neg c_84, if_neg c_91, if_pos c_121, if_neg c_151, if_neg c_198])
                  exact W.vret hx hb hr (fun t9 ht9 hW9 => ⟨⟨(v_mask, v_key, v_wait, v_problem, v_code, v_length, v_cond, v_masks, v_addr, u_246, v_after, v_mF, v_mrF), rfl, hf9, ⟨by rw [ht9]; exact hP, va_K.moved hW9.alike hK, hD⟩⟩, hS.F ht9⟩) hS.2.2 dX12_stored_249
                · skip
                  refine lv_aload_n hx hb dX12_stored_201 rfl (lv_at hl 3 rfl) ?_
                  have hPc : va_P D vwCl (wX12_supervisor cI cB a_mo a_mem a_mks a_mr a_cnt a_wd a_one a_two a_mmade a_mrest a_old v_thrown v_mask v_key v_wait v_problem v_code v_length v_cond v_masks v_addr v_mwanted v_wrong v_after v_calls v_oneB v_twoB) H := hP.sub [0] rfl
                  have hDc : va_D A (wX12_supervisor cI cB a_mo a_mem a_mks a_mr a_cnt a_wd a_one a_two a_mmade a_mrest a_old v_thrown v_mask v_key v_wait v_problem v_code v_length v_cond v_masks v_addr v_mwanted v_wrong v_after v_calls v_oneB v_twoB) := hD.sub [0] (by decide) rfl
                  have hFc := va_free (wc := (wX12_supervisor cI cB a_mo a_mem a_mks a_mr a_cnt a_wd a_one a_two a_mmade a_mrest a_old v_thrown v_mask v_key v_wait v_problem v_code v_length v_cond v_masks v_addr v_mwanted v_wrong v_after v_calls v_oneB v_twoB)) hD hS hA [0] rfl
                  refine va_callv (va_runV (As := []) (rest := []) ⟨hx, hb, hml, hown, hts⟩ (kX12_supervisor l D cI cB a_mo a_mem a_mks a_mr a_cnt a_wd a_one a_two a_mmade a_mrest a_old H.size v_thrown v_mask v_key v_wait v_problem v_code v_length v_cond v_masks v_addr v_mwanted v_wrong v_after v_calls v_oneB v_twoB ) (cwV 0 hts (gd_V wd_913 wd_914 wd_915 wd_807 wd_842) rfl rfl rfl hdX12_supervisor ⟨Nat.le_of_ble_eq_true rfl, Nat.le_of_ble_eq_true rfl⟩) (preV_std (ci := 12) (q0 := 0) hPc hK hDc hNW rfl rfl) rfl rfl hl.1 rfl (lv_room (Nat.le_of_ble_eq_true rfl)) dX12_stored_202 ⟨Nat.zero_le _, Nat.zero_le _⟩) hS (fun q _ h => hFc q h) hFc (fun u_202 t9 H1 locs ht9 hvm9 hw9 hB9 hz9 hk9 hS => ?_)
                  have eu_202 : u_202 = fX12_supervisor v_problem v_wrong := hw9
                  obtain ⟨hP, hD⟩ := back_std (w1 := (wX12_supervisor cI cB a_mo a_mem a_mks a_mr a_cnt a_wd a_one a_two a_mmade a_mrest a_old v_thrown v_mask v_key v_wait v_problem v_code v_length v_cond v_masks v_addr v_mwanted u_202 v_after v_calls v_oneB v_twoB)) (w2 := (wX12_stored cI cB a_mo a_mem a_mks a_mr a_cnt a_wd a_one a_two a_mmade a_mrest a_old v_thrown v_mask v_key v_wait v_problem v_code v_length v_cond v_masks v_addr v_mwanted u_202 v_after v_calls v_oneB v_twoB v_mF v_mkF v_mrF v_wdF)) (wr := [(a_mem, .inl (cI, 8192, .inl v_mF)), (a_mks, .inl (cI, 4, .inl v_mkF)), (a_mr, .inl (cI, 16, .inl v_mrF)), (a_wd, .inl (cI, 6, .inl v_wdF))]) hP hD [0] [1, 2, 3, 4] [4, 0, 1, 2, 3] rfl rfl (by decide) (by decide) hk9 hFc hB9 ht9 (by decide) rfl
                  clear hB9 hk9 hz9 hvm9 ht9 hFc hPc hDc
                  generalize H1 = H at hP hS ⊢
                  refine lv_aload_n hx hb dX12_stored_205 rfl (lv_at hl 3 rfl) ?_
                  refine lv_iload hx hb dX12_stored_206 (lv_at hl 0 rfl) ?_
                  refine lv_bipush (v := 8) hx hb dX12_stored_208 (by decide) ?_
                  refine lv_iconst (v := 0) hx hb dX12_stored_210 (by decide) ?_
                  have hPc : va_P D vwCl (wX12_look cI cB a_mo a_mem a_mks a_mr a_cnt a_wd a_one a_two a_mmade a_mrest a_old v_thrown v_mask v_key v_wait v_problem v_code v_length v_cond v_masks v_addr v_mwanted u_202 v_after v_calls v_oneB v_twoB v_mkF) H := hP.sub [0, 2] rfl
                  have hDc : va_D A (wX12_look cI cB a_mo a_mem a_mks a_mr a_cnt a_wd a_one a_two a_mmade a_mrest a_old v_thrown v_mask v_key v_wait v_problem v_code v_length v_cond v_masks v_addr v_mwanted u_202 v_after v_calls v_oneB v_twoB v_mkF) := hD.sub [0, 2] (by decide) rfl
                  have hFc := va_free (wc := (wX12_look cI cB a_mo a_mem a_mks a_mr a_cnt a_wd a_one a_two a_mmade a_mrest a_old v_thrown v_mask v_key v_wait v_problem v_code v_length v_cond v_masks v_addr v_mwanted u_202 v_after v_calls v_oneB v_twoB v_mkF)) hD hS hA [0, 2] rfl
                  refine va_callv (va_runV (As := [.int r_21, .int 8, .int 0]) (rest := []) ⟨hx, hb, hml, hown, hts⟩ (kX12_look l D cI cB a_mo a_mem a_mks a_mr a_cnt a_wd a_one a_two a_mmade a_mrest a_old H.size v_thrown v_mask v_key v_wait v_problem v_code v_length v_cond v_masks v_addr v_mwanted u_202 v_after v_calls v_oneB v_twoB v_mkF r_21 8 0) (cwV 3 hts (gd_V wd_857 wd_858 wd_859 wd_807 wd_837) rfl rfl rfl hdX12_look ⟨Nat.le_of_ble_eq_true rfl, Nat.le_of_ble_eq_true rfl⟩) (preV_std (ci := 12) (q0 := 0) hPc hK hDc hNW rfl rfl) rfl rfl hl.1 rfl (lv_room (Nat.le_of_ble_eq_true rfl)) dX12_stored_211 ⟨Nat.zero_le _, Nat.zero_le _⟩) hS (fun q _ h => hFc q h) hFc (fun u_211 t9 H1 locs ht9 hvm9 hw9 hB9 hz9 hk9 hS => ?_)
                  have eu_211 : u_211 = fX12_look r_21 8 0 v_key u_202 v_mkF := hw9
                  obtain ⟨hP, hD⟩ := back_std (w1 := (wX12_look cI cB a_mo a_mem a_mks a_mr a_cnt a_wd a_one a_two a_mmade a_mrest a_old v_thrown v_mask v_key v_wait v_problem v_code v_length v_cond v_masks v_addr v_mwanted u_211 v_after v_calls v_oneB v_twoB v_mkF)) (w2 := (wX12_stored cI cB a_mo a_mem a_mks a_mr a_cnt a_wd a_one a_two a_mmade a_mrest a_old v_thrown v_mask v_key v_wait v_problem v_code v_length v_cond v_masks v_addr v_mwanted u_211 v_after v_calls v_oneB v_twoB v_mF v_mkF v_mrF v_wdF)) (wr := [(a_mem, .inl (cI, 8192, .inl v_mF)), (a_mr, .inl (cI, 16, .inl v_mrF)), (a_wd, .inl (cI, 6, .inl v_wdF))]) hP hD [0, 2] [1, 3, 4] [3, 0, 4, 1, 2] rfl rfl (by decide) (by decide) hk9 hFc hB9 ht9 (by decide) rfl
                  clear hB9 hk9 hz9 hvm9 ht9 hFc hPc hDc
                  generalize H1 = H at hP hS ⊢
                  refine lv_aload_n hx hb dX12_stored_214 rfl (lv_at hl 3 rfl) ?_
                  refine lv_iload hx hb dX12_stored_215 (lv_at hl 0 rfl) ?_
                  refine lv_bipush (v := 8) hx hb dX12_stored_217 (by decide) ?_
                  have hPc : va_P D vwCl (wX12_even cI cB a_mo a_mem a_mks a_mr a_cnt a_wd a_one a_two a_mmade a_mrest a_old v_thrown v_mask v_key v_wait v_problem v_code v_length v_cond v_masks v_addr v_mwanted u_211 v_after v_calls v_oneB v_twoB) H := hP.sub [0] rfl
                  have hDc : va_D A (wX12_even cI cB a_mo a_mem a_mks a_mr a_cnt a_wd a_one a_two a_mmade a_mrest a_old v_thrown v_mask v_key v_wait v_problem v_code v_length v_cond v_masks v_addr v_mwanted u_211 v_after v_calls v_oneB v_twoB) := hD.sub [0] (by decide) rfl
                  have hFc := va_free (wc := (wX12_even cI cB a_mo a_mem a_mks a_mr a_cnt a_wd a_one a_two a_mmade a_mrest a_old v_thrown v_mask v_key v_wait v_problem v_code v_length v_cond v_masks v_addr v_mwanted u_211 v_after v_calls v_oneB v_twoB)) hD hS hA [0] rfl
                  refine va_callv (va_runV (As := [.int r_21, .int 8]) (rest := []) ⟨hx, hb, hml, hown, hts⟩ (kX12_even l D cI cB a_mo a_mem a_mks a_mr a_cnt a_wd a_one a_two a_mmade a_mrest a_old H.size v_thrown v_mask v_key v_wait v_problem v_code v_length v_cond v_masks v_addr v_mwanted u_211 v_after v_calls v_oneB v_twoB r_21 8 (by first | with_reducible assumption | decide | (unfold vp_in; decide))) (cwV 2 hts (gd_V wd_860 wd_861 wd_862 wd_807 wd_841) rfl rfl rfl hdX12_even ⟨Nat.le_of_ble_eq_true rfl, Nat.le_of_ble_eq_true rfl⟩) (preV_std (ci := 12) (q0 := 0) hPc hK hDc hNW rfl rfl) rfl rfl hl.1 rfl (lv_room (Nat.le_of_ble_eq_true rfl)) dX12_stored_219 ⟨Nat.zero_le _, Nat.zero_le _⟩) hS (fun q _ h => hFc q h) hFc (fun u_219 t9 H1 locs ht9 hvm9 hw9 hB9 hz9 hk9 hS => ?_)
                  have eu_219 : u_219 = fX12_even r_21 8 u_211 := hw9
                  obtain ⟨hP, hD⟩ := back_std (w1 := (wX12_even cI cB a_mo a_mem a_mks a_mr a_cnt a_wd a_one a_two a_mmade a_mrest a_old v_thrown v_mask v_key v_wait v_problem v_code v_length v_cond v_masks v_addr v_mwanted u_219 v_after v_calls v_oneB v_twoB)) (w2 := (wX12_stored cI cB a_mo a_mem a_mks a_mr a_cnt a_wd a_one a_two a_mmade a_mrest a_old v_thrown v_mask v_key v_wait v_problem v_code v_length v_cond v_masks v_addr v_mwanted u_219 v_after v_calls v_oneB v_twoB v_mF v_mkF v_mrF v_wdF)) (wr := [(a_mem, .inl (cI, 8192, .inl v_mF)), (a_mks, .inl (cI, 4, .inl v_mkF)), (a_mr, .inl (cI, 16, .inl v_mrF)), (a_wd, .inl (cI, 6, .inl v_wdF))]) hP hD [0] [1, 2, 3, 4] [4, 0, 1, 2, 3] rfl rfl (by decide) (by decide) hk9 hFc hB9 ht9 (by decide) rfl
                  clear hB9 hk9 hz9 hvm9 ht9 hFc hPc hDc
                  generalize H1 = H at hP hS ⊢
                  refine lv_aload_n hx hb dX12_stored_222 rfl (lv_at hl 3 rfl) ?_
                  refine va_get (D := D) (ci := 12) (v := .int u_219) (C := RX12) (T := TX12) (N := 26) hx hb hts in_X12 hown hK hP 0 rfl rfl 16 (by decide) q_1 (fun _ h9 => h9) rfl dX12_stored_223 ?_
                  refine lv_if_ne (tgt := 249) hx hb dX12_stored_226 (by decide) (fun c_226 => ?_) (fun c_226 => ?_)
                  · skip
                    have hf9 : (v_mask, v_key, v_wait, v_problem, v_code, v_length, v_cond, v_masks, v_addr, u_219, v_after, v_mF, v_mrF) = fX12_stored x0 v_mask v_key v_wait v_problem v_code v_length v_cond v_masks v_addr v_wrong v_after v_mF v_mkF v_mrF v_wdF := by subst ex_18; subst ex_8; simp only [fX12_stored, ← er_21, ← eu_202, ← eu_211, ← eu_219]; (try simp only [if_pos c_30, if_neg c_58, if_neg c_65, if_neg c_84, if_neg c_91, if_pos c_121, if_neg c_151, if_pos c_198, if_neg c_226])
                    exact W.vret hx hb hr (fun t9 ht9 hW9 => ⟨⟨(v_mask, v_key, v_wait, v_problem, v_code, v_length, v_cond, v_masks, v_addr, u_219, v_after, v_mF, v_mrF), rfl, hf9, ⟨by rw [ht9]; exact hP, va_K.moved hW9.alike hK, hD⟩⟩, hS.F ht9⟩) hS.2.2 dX12_stored_249
                  · skip
                    refine lv_aload_n hx hb dX12_stored_229 rfl (lv_at hl 3 rfl) ?_
                    refine lv_aload_n hx hb dX12_stored_230 rfl (lv_at hl 3 rfl) ?_
                    refine lv_iload hx hb dX12_stored_231 (lv_at hl 0 rfl) ?_
                    refine lv_bipush (v := 8) hx hb dX12_stored_233 (by decide) ?_
                    have hPc : va_P D vwCl (wX12_fetch cI cB a_mo a_mem a_mks a_mr a_cnt a_wd a_one a_two a_mmade a_mrest a_old v_thrown v_mask v_key v_wait v_problem v_code v_length v_cond v_masks v_addr v_mwanted u_219 v_after v_calls v_oneB v_twoB v_mF) H := hP.sub [0, 1] rfl
                    have hDc : va_D A (wX12_fetch cI cB a_mo a_mem a_mks a_mr a_cnt a_wd a_one a_two a_mmade a_mrest a_old v_thrown v_mask v_key v_wait v_problem v_code v_length v_cond v_masks v_addr v_mwanted u_219 v_after v_calls v_oneB v_twoB v_mF) := hD.sub [0, 1] (by decide) rfl
                    have hFc := va_free (wc := (wX12_fetch cI cB a_mo a_mem a_mks a_mr a_cnt a_wd a_one a_two a_mmade a_mrest a_old v_thrown v_mask v_key v_wait v_problem v_code v_length v_cond v_masks v_addr v_mwanted u_219 v_after v_calls v_oneB v_twoB v_mF)) hD hS hA [0, 1] rfl
                    refine va_calll (va_runV (As := [.int r_21, .int 8]) (rest := [.ref a_mo]) ⟨hx, hb, hml, hown, hts⟩ (kX12_fetch l D cI cB a_mo a_mem a_mks a_mr a_cnt a_wd a_one a_two a_mmade a_mrest a_old H.size v_thrown v_mask v_key v_wait v_problem v_code v_length v_cond v_masks v_addr v_mwanted u_219 v_after v_calls v_oneB v_twoB v_mF r_21 8 (op_in ha (Or.inr (Or.inr (Or.inr rfl))) (by rw [eu_202]; exact sup_nn hw) eu_211 eu_219 (eq0_np c_226))) (cwV 2 hts (gd_V wd_830 wd_831 wd_832 wd_807 wd_819) rfl rfl rfl hdX12_fetch ⟨Nat.le_of_ble_eq_true rfl, Nat.le_of_ble_eq_true rfl⟩) (preV_std (ci := 12) (q0 := 0) hPc hK hDc hNW rfl rfl) rfl rfl hl.1 rfl (lv_room (Nat.le_of_ble_eq_true rfl)) dX12_stored_235 ⟨Nat.zero_le _, Nat.zero_le _⟩) hS (fun q _ h => hFc q h) hFc (fun r_235 u_235 t9 H1 locs ht9 hvm9 hw9 hB9 hz9 hk9 hS => ?_)
                    have er_235 : r_235 = fX12_fetch r_21 8 v_mF := hw9
                    obtain ⟨hP, hD⟩ := back_std (w1 := (wX12_fetch cI cB a_mo a_mem a_mks a_mr a_cnt a_wd a_one a_two a_mmade a_mrest a_old v_thrown v_mask v_key v_wait v_problem v_code v_length v_cond v_masks v_addr v_mwanted u_219 v_after v_calls v_oneB v_twoB v_mF)) (w2 := (wX12_stored cI cB a_mo a_mem a_mks a_mr a_cnt a_wd a_one a_two a_mmade a_mrest a_old v_thrown v_mask v_key v_wait v_problem v_code v_length v_cond v_masks v_addr v_mwanted u_219 v_after v_calls v_oneB v_twoB v_mF v_mkF v_mrF v_wdF)) (wr := [(a_mks, .inl (cI, 4, .inl v_mkF)), (a_mr, .inl (cI, 16, .inl v_mrF)), (a_wd, .inl (cI, 6, .inl v_wdF))]) hP hD [0, 1] [2, 3, 4] [3, 4, 0, 1, 2] rfl rfl (by decide) (by decide) hk9 hFc hB9 ht9 (by decide) rfl
                    clear hB9 hk9 hz9 hvm9 ht9 hFc hPc hDc
                    generalize H1 = H at hP hS ⊢
                    have hPc : va_P D vwCl (wX12_become cI cB a_mo a_mem a_mks a_mr a_cnt a_wd a_one a_two a_mmade a_mrest a_old v_thrown v_mask v_key v_wait v_problem v_code v_length v_cond v_masks v_addr v_mwanted u_219 v_after v_calls v_oneB v_twoB) H := hP.sub [0] rfl
                    have hDc : va_D A (wX12_become cI cB a_mo a_mem a_mks a_mr a_cnt a_wd a_one a_two a_mmade a_mrest a_old v_thrown v_mask v_key v_wait v_problem v_code v_length v_cond v_masks v_addr v_mwanted u_219 v_after v_calls v_oneB v_twoB) := hD.sub [0] (by decide) rfl
                    have hFc := va_free (wc := (wX12_become cI cB a_mo a_mem a_mks a_mr a_cnt a_wd a_one a_two a_mmade a_mrest a_old v_thrown v_mask v_key v_wait v_problem v_code v_length v_cond v_masks v_addr v_mwanted u_219 v_after v_calls v_oneB v_twoB)) hD hS hA [0] rfl
                    refine va_callv (va_runV (As := [.long r_235]) (rest := []) ⟨hx, hb, hml, hown, hts⟩ (kX12_become l D cI cB a_mo a_mem a_mks a_mr a_cnt a_wd a_one a_two a_mmade a_mrest a_old H.size v_thrown v_mask v_key v_wait v_problem v_code v_length v_cond v_masks v_addr v_mwanted u_219 v_after v_calls v_oneB v_twoB r_235) (cwV 1 hts (gd_V wd_816 wd_817 wd_818 wd_807 wd_808) rfl rfl rfl hdX12_become ⟨Nat.le_of_ble_eq_true rfl, Nat.le_of_ble_eq_true rfl⟩) (preV_std (ci := 12) (q0 := 0) hPc hK hDc hNW rfl rfl) rfl rfl hl.1 rfl (lv_room (Nat.le_of_ble_eq_true rfl)) dX12_stored_238 ⟨Nat.zero_le _, Nat.zero_le _⟩) hS (fun q _ h => hFc q h) hFc (fun u_238 t9 H1 locs ht9 hvm9 hw9 hB9 hz9 hk9 hS => ?_)
                    have eu_238 : u_238 = fX12_become r_235 v_mask v_key v_wait v_problem v_code v_length v_cond v_masks v_addr := hw9
                    obtain ⟨hP, hD⟩ := back_std (w1 := (wX12_become cI cB a_mo a_mem a_mks a_mr a_cnt a_wd a_one a_two a_mmade a_mrest a_old v_thrown u_238.1 u_238.2.1 u_238.2.2.1 u_238.2.2.2.1 u_238.2.2.2.2.1 u_238.2.2.2.2.2.1 u_238.2.2.2.2.2.2.1 u_238.2.2.2.2.2.2.2.1 u_238.2.2.2.2.2.2.2.2 v_mwanted u_219 v_after v_calls v_oneB v_twoB)) (w2 := (wX12_stored cI cB a_mo a_mem a_mks a_mr a_cnt a_wd a_one a_two a_mmade a_mrest a_old v_thrown u_238.1 u_238.2.1 u_238.2.2.1 u_238.2.2.2.1 u_238.2.2.2.2.1 u_238.2.2.2.2.2.1 u_238.2.2.2.2.2.2.1 u_238.2.2.2.2.2.2.2.1 u_238.2.2.2.2.2.2.2.2 v_mwanted u_219 v_after v_calls v_oneB v_twoB v_mF v_mkF v_mrF v_wdF)) (wr := [(a_mem, .inl (cI, 8192, .inl v_mF)), (a_mks, .inl (cI, 4, .inl v_mkF)), (a_mr, .inl (cI, 16, .inl v_mrF)), (a_wd, .inl (cI, 6, .inl v_wdF))]) hP hD [0] [1, 2, 3, 4] [4, 0, 1, 2, 3] rfl rfl (by decide) (by decide) hk9 hFc hB9 ht9 (by decide) rfl
                    clear hB9 hk9 hz9 hvm9 ht9 hFc hPc hDc
                    generalize H1 = H at hP hS ⊢
                    refine lv_goto (tgt := 249) hx hb dX12_stored_241 (by decide) ?_
                    have hf9 : (u_238.1, u_238.2.1, u_238.2.2.1, u_238.2.2.2.1, u_238.2.2.2.2.1, u_238.2.2.2.2.2.1, u_238.2.2.2.2.2.2.1, u_238.2.2.2.2.2.2.2.1, u_238.2.2.2.2.2.2.2.2, u_219, v_after, v_mF, v_mrF) = fX12_stored x0 v_mask v_key v_wait v_problem v_code v_length v_cond v_masks v_addr v_wrong v_after v_mF v_mkF v_mrF v_wdF := by subst ex_18; subst ex_8; simp only [fX12_stored, ← er_21, ← eu_202, ← eu_211, ← eu_219, ← er_235, ← eu_238]; (try simp only [if_pos c_30, if_neg c_58, if_neg c_65, if_neg c_84, if_neg c_91, if_pos c_121, if_neg c_151, if_pos c_198, if_pos c_226])
                    exact W.vret hx hb hr (fun t9 ht9 hW9 => ⟨⟨(u_238.1, u_238.2.1, u_238.2.2.1, u_238.2.2.2.1, u_238.2.2.2.2.1, u_238.2.2.2.2.2.1, u_238.2.2.2.2.2.2.1, u_238.2.2.2.2.2.2.2.1, u_238.2.2.2.2.2.2.2.2, u_219, v_after, v_mF, v_mrF), rfl, hf9, ⟨by rw [ht9]; exact hP, va_K.moved hW9.alike hK, hD⟩⟩, hS.F ht9⟩) hS.2.2 dX12_stored_249
              · skip
                refine lv_aload_n hx hb dX12_stored_154 rfl (lv_at hl 3 rfl) ?_
                have hPc : va_P D vwCl (wX12_supervisor cI cB a_mo a_mem a_mks a_mr a_cnt a_wd a_one a_two a_mmade a_mrest a_old v_thrown v_mask v_key v_wait v_problem v_code v_length v_cond v_masks v_addr v_mwanted v_wrong v_after v_calls v_oneB v_twoB) H := hP.sub [0] rfl
                have hDc : va_D A (wX12_supervisor cI cB a_mo a_mem a_mks a_mr a_cnt a_wd a_one a_two a_mmade a_mrest a_old v_thrown v_mask v_key v_wait v_problem v_code v_length v_cond v_masks v_addr v_mwanted v_wrong v_after v_calls v_oneB v_twoB) := hD.sub [0] (by decide) rfl
                have hFc := va_free (wc := (wX12_supervisor cI cB a_mo a_mem a_mks a_mr a_cnt a_wd a_one a_two a_mmade a_mrest a_old v_thrown v_mask v_key v_wait v_problem v_code v_length v_cond v_masks v_addr v_mwanted v_wrong v_after v_calls v_oneB v_twoB)) hD hS hA [0] rfl
                refine va_callv (va_runV (As := []) (rest := []) ⟨hx, hb, hml, hown, hts⟩ (kX12_supervisor l D cI cB a_mo a_mem a_mks a_mr a_cnt a_wd a_one a_two a_mmade a_mrest a_old H.size v_thrown v_mask v_key v_wait v_problem v_code v_length v_cond v_masks v_addr v_mwanted v_wrong v_after v_calls v_oneB v_twoB ) (cwV 0 hts (gd_V wd_913 wd_914 wd_915 wd_807 wd_842) rfl rfl rfl hdX12_supervisor ⟨Nat.le_of_ble_eq_true rfl, Nat.le_of_ble_eq_true rfl⟩) (preV_std (ci := 12) (q0 := 0) hPc hK hDc hNW rfl rfl) rfl rfl hl.1 rfl (lv_room (Nat.le_of_ble_eq_true rfl)) dX12_stored_155 ⟨Nat.zero_le _, Nat.zero_le _⟩) hS (fun q _ h => hFc q h) hFc (fun u_155 t9 H1 locs ht9 hvm9 hw9 hB9 hz9 hk9 hS => ?_)
                have eu_155 : u_155 = fX12_supervisor v_problem v_wrong := hw9
                obtain ⟨hP, hD⟩ := back_std (w1 := (wX12_supervisor cI cB a_mo a_mem a_mks a_mr a_cnt a_wd a_one a_two a_mmade a_mrest a_old v_thrown v_mask v_key v_wait v_problem v_code v_length v_cond v_masks v_addr v_mwanted u_155 v_after v_calls v_oneB v_twoB)) (w2 := (wX12_stored cI cB a_mo a_mem a_mks a_mr a_cnt a_wd a_one a_two a_mmade a_mrest a_old v_thrown v_mask v_key v_wait v_problem v_code v_length v_cond v_masks v_addr v_mwanted u_155 v_after v_calls v_oneB v_twoB v_mF v_mkF v_mrF v_wdF)) (wr := [(a_mem, .inl (cI, 8192, .inl v_mF)), (a_mks, .inl (cI, 4, .inl v_mkF)), (a_mr, .inl (cI, 16, .inl v_mrF)), (a_wd, .inl (cI, 6, .inl v_wdF))]) hP hD [0] [1, 2, 3, 4] [4, 0, 1, 2, 3] rfl rfl (by decide) (by decide) hk9 hFc hB9 ht9 (by decide) rfl
                clear hB9 hk9 hz9 hvm9 ht9 hFc hPc hDc
                generalize H1 = H at hP hS ⊢
                refine lv_aload_n hx hb dX12_stored_158 rfl (lv_at hl 3 rfl) ?_
                refine lv_iload hx hb dX12_stored_159 (lv_at hl 0 rfl) ?_
                refine lv_iconst (v := 1) hx hb dX12_stored_161 (by decide) ?_
                refine lv_iconst (v := 0) hx hb dX12_stored_162 (by decide) ?_
                have hPc : va_P D vwCl (wX12_look cI cB a_mo a_mem a_mks a_mr a_cnt a_wd a_one a_two a_mmade a_mrest a_old v_thrown v_mask v_key v_wait v_problem v_code v_length v_cond v_masks v_addr v_mwanted u_155 v_after v_calls v_oneB v_twoB v_mkF) H := hP.sub [0, 2] rfl
                have hDc : va_D A (wX12_look cI cB a_mo a_mem a_mks a_mr a_cnt a_wd a_one a_two a_mmade a_mrest a_old v_thrown v_mask v_key v_wait v_problem v_code v_length v_cond v_masks v_addr v_mwanted u_155 v_after v_calls v_oneB v_twoB v_mkF) := hD.sub [0, 2] (by decide) rfl
                have hFc := va_free (wc := (wX12_look cI cB a_mo a_mem a_mks a_mr a_cnt a_wd a_one a_two a_mmade a_mrest a_old v_thrown v_mask v_key v_wait v_problem v_code v_length v_cond v_masks v_addr v_mwanted u_155 v_after v_calls v_oneB v_twoB v_mkF)) hD hS hA [0, 2] rfl
                refine va_callv (va_runV (As := [.int r_21, .int 1, .int 0]) (rest := []) ⟨hx, hb, hml, hown, hts⟩ (kX12_look l D cI cB a_mo a_mem a_mks a_mr a_cnt a_wd a_one a_two a_mmade a_mrest a_old H.size v_thrown v_mask v_key v_wait v_problem v_code v_length v_cond v_masks v_addr v_mwanted u_155 v_after v_calls v_oneB v_twoB v_mkF r_21 1 0) (cwV 3 hts (gd_V wd_857 wd_858 wd_859 wd_807 wd_837) rfl rfl rfl hdX12_look ⟨Nat.le_of_ble_eq_true rfl, Nat.le_of_ble_eq_true rfl⟩) (preV_std (ci := 12) (q0 := 0) hPc hK hDc hNW rfl rfl) rfl rfl hl.1 rfl (lv_room (Nat.le_of_ble_eq_true rfl)) dX12_stored_163 ⟨Nat.zero_le _, Nat.zero_le _⟩) hS (fun q _ h => hFc q h) hFc (fun u_163 t9 H1 locs ht9 hvm9 hw9 hB9 hz9 hk9 hS => ?_)
                have eu_163 : u_163 = fX12_look r_21 1 0 v_key u_155 v_mkF := hw9
                obtain ⟨hP, hD⟩ := back_std (w1 := (wX12_look cI cB a_mo a_mem a_mks a_mr a_cnt a_wd a_one a_two a_mmade a_mrest a_old v_thrown v_mask v_key v_wait v_problem v_code v_length v_cond v_masks v_addr v_mwanted u_163 v_after v_calls v_oneB v_twoB v_mkF)) (w2 := (wX12_stored cI cB a_mo a_mem a_mks a_mr a_cnt a_wd a_one a_two a_mmade a_mrest a_old v_thrown v_mask v_key v_wait v_problem v_code v_length v_cond v_masks v_addr v_mwanted u_163 v_after v_calls v_oneB v_twoB v_mF v_mkF v_mrF v_wdF)) (wr := [(a_mem, .inl (cI, 8192, .inl v_mF)), (a_mr, .inl (cI, 16, .inl v_mrF)), (a_wd, .inl (cI, 6, .inl v_wdF))]) hP hD [0, 2] [1, 3, 4] [3, 0, 4, 1, 2] rfl rfl (by decide) (by decide) hk9 hFc hB9 ht9 (by decide) rfl
                clear hB9 hk9 hz9 hvm9 ht9 hFc hPc hDc
                generalize H1 = H at hP hS ⊢
                refine lv_aload_n hx hb dX12_stored_166 rfl (lv_at hl 3 rfl) ?_
                refine lv_aload_n hx hb dX12_stored_167 rfl (lv_at hl 3 rfl) ?_
                refine va_get (D := D) (ci := 12) (v := .int u_163) (C := RX12) (T := TX12) (N := 26) hx hb hts in_X12 hown hK hP 0 rfl rfl 16 (by decide) q_1 (fun _ h9 => h9) rfl dX12_stored_168 ?_
                have J_188 : ∀ (m_188 : Int32), m_188 = (if u_163 ≤ 0 then ((v_mF (r_21 : Int32).toNatClampNeg)) else (v_mask)) → ∀ (H : Heap) (locs : List Loc), va_P D vwCl (wX12_stored cI cB a_mo a_mem a_mks a_mr a_cnt a_wd a_one a_two a_mmade a_mrest a_old v_thrown v_mask v_key v_wait v_problem v_code v_length v_cond v_masks v_addr v_mwanted u_163 v_after v_calls v_oneB v_twoB v_mF v_mkF v_mrF v_wdF) H → va_D A (wX12_stored cI cB a_mo a_mem a_mks a_mr a_cnt a_wd a_one a_two a_mmade a_mrest a_old v_thrown v_mask v_key v_wait v_problem v_code v_length v_cond v_masks v_addr v_mwanted u_163 v_after v_calls v_oneB v_twoB v_mF v_mkF v_mrF v_wdF) → va_S A s.heap H locs → ∀ (ls : Array Slot), lv_has ls 5 [(0, .ref a_mo), (1, .int x0), (2, .int x_8), (3, .int x_18), (4, .int r_21)] → W p l e rmX12_stored s m ([.ref a_mo, .int x0] : List Value).toArray below meth c H locs 0 0 (MQ below (qX12_stored D cI cB a_mo a_mem a_mks a_mr a_cnt a_wd a_one a_two a_mmade a_mrest a_old v_thrown v_mask v_key v_wait v_problem v_code v_length v_cond v_masks v_addr v_mwanted v_wrong v_after v_calls v_oneB v_twoB v_mF v_mkF v_mrF v_wdF x0 A) ([.ref a_mo, .int x0] : List Value).toArray s 0 0 A) (F0 m 188 ls [.int m_188, .ref a_mo]) := by
                  intro m_188 em_188 H locs hP hD hS ls hl
                  try dsimp only at em_188
                  refine va_put (D := D) (ci := 12) (v := .int m_188) (ty := .int) (C := RX12) (T := TX12) (N := 26) hx hb hts in_X12 tyX12 tyX12_ok nmX12 hown hK hP hD hS 0 rfl rfl 4 (by decide) q_3 (fun _ h9 => h9) rfl (by decide +kernel) rfl rfl (Nat.le_of_ble_eq_true rfl) dX12_stored_188 (fun H locs hP hD hS => ?_)
                  have hP : va_P D vwCl (wX12_stored cI cB a_mo a_mem a_mks a_mr a_cnt a_wd a_one a_two a_mmade a_mrest a_old v_thrown m_188 v_key v_wait v_problem v_code v_length v_cond v_masks v_addr v_mwanted u_163 v_after v_calls v_oneB v_twoB v_mF v_mkF v_mrF v_wdF) H := hP
                  have hD : va_D A (wX12_stored cI cB a_mo a_mem a_mks a_mr a_cnt a_wd a_one a_two a_mmade a_mrest a_old v_thrown m_188 v_key v_wait v_problem v_code v_length v_cond v_masks v_addr v_mwanted u_163 v_after v_calls v_oneB v_twoB v_mF v_mkF v_mrF v_wdF) := hD
                  refine lv_goto (tgt := 249) hx hb dX12_stored_191 (by decide) ?_
                  have hf9 : (m_188, v_key, v_wait, v_problem, v_code, v_length, v_cond, v_masks, v_addr, u_163, v_after, v_mF, v_mrF) = fX12_stored x0 v_mask v_key v_wait v_problem v_code v_length v_cond v_masks v_addr v_wrong v_after v_mF v_mkF v_mrF v_wdF := by subst ex_18; subst ex_8; simp only [fX12_stored, ← er_21, ← eu_155, ← eu_163, ← em_188]; (try simp only [if_pos c_30, if_neg c_58, if_neg c_65, if_neg c_84, if_neg c_91, if_pos c_121, if_pos c_151])
                  exact W.vret hx hb hr (fun t9 ht9 hW9 => ⟨⟨(m_188, v_key, v_wait, v_problem, v_code, v_length, v_cond, v_masks, v_addr, u_163, v_after, v_mF, v_mrF), rfl, hf9, ⟨by rw [ht9]; exact hP, va_K.moved hW9.alike hK, hD⟩⟩, hS.F ht9⟩) hS.2.2 dX12_stored_249
                refine lv_if_le (tgt := 181) hx hb dX12_stored_171 (by decide) (fun c_171 => ?_) (fun c_171 => ?_)
                · skip
                  refine lv_aload_n hx hb dX12_stored_181 rfl (lv_at hl 3 rfl) ?_
                  refine va_get (D := D) (ci := 12) (v := .ref a_mem) (C := RX12) (T := TX12) (N := 26) hx hb hts in_X12 hown hK hP 0 rfl rfl 1 (by decide) q_2 (fun _ h9 => h9) rfl dX12_stored_182 ?_
                  refine lv_iload hx hb dX12_stored_185 (lv_at hl 0 rfl) ?_
                  refine va_iald hx hb hK hP 1 0 rfl rfl (lk_in ha (by rw [eu_155]; exact sup_nn hw) eu_163 c_171) dX12_stored_187 ?_
                  exact J_188 (v_mF (r_21 : Int32).toNatClampNeg) (by (try simp only [if_pos c_171])) _ _ hP hD hS ls (lv_sub hl [3, 4, 2, 1, 0] rfl)
                · skip
                  refine lv_aload_n hx hb dX12_stored_174 rfl (lv_at hl 3 rfl) ?_
                  refine va_get (D := D) (ci := 12) (v := .int v_mask) (C := RX12) (T := TX12) (N := 26) hx hb hts in_X12 hown hK hP 0 rfl rfl 4 (by decide) q_3 (fun _ h9 => h9) rfl dX12_stored_175 ?_
                  refine lv_goto (tgt := 188) hx hb dX12_stored_178 (by decide) ?_
                  exact J_188 v_mask (by (try simp only [if_neg c_171])) _ _ hP hD hS ls (lv_sub hl [3, 4, 2, 1, 0] rfl)
            · skip
              refine lv_iload_n hx hb dX12_stored_124 rfl (lv_at hl 4 rfl) ?_
              refine lv_sipush (v := 151) hx hb dX12_stored_125 (by decide) ?_
              refine lv_icmp_gt (tgt := 147) hx hb dX12_stored_128 (by decide) (fun c_128 => ?_) (fun c_128 => ?_)
              · skip
                refine lv_iload_n hx hb dX12_stored_147 rfl (lv_at hl 4 rfl) ?_
                refine lv_sipush (v := 128) hx hb dX12_stored_148 (by decide) ?_
                refine lv_icmp_ne (tgt := 194) hx hb dX12_stored_151 (by decide) (fun c_151 => ?_) (fun c_151 => ?_)
                · skip
                  refine lv_iload_n hx hb dX12_stored_194 rfl (lv_at hl 4 rfl) ?_
                  refine lv_sipush (v := 130) hx hb dX12_stored_195 (by decide) ?_
                  refine lv_icmp_ne (tgt := 244) hx hb dX12_stored_198 (by decide) (fun c_198 => ?_) (fun c_198 => ?_)
                  · skip
                    refine lv_aload_n hx hb dX12_stored_244 rfl (lv_at hl 3 rfl) ?_
                    refine lv_iconst (v := 1) hx hb dX12_stored_245 (by decide) ?_
                    have hPc : va_P D vwCl (wX12_meet cI cB a_mo a_mem a_mks a_mr a_cnt a_wd a_one a_two a_mmade a_mrest a_old v_thrown v_mask v_key v_wait v_problem v_code v_length v_cond v_masks v_addr v_mwanted v_wrong v_after v_calls v_oneB v_twoB) H := hP.sub [0] rfl
                    have hDc : va_D A (wX12_meet cI cB a_mo a_mem a_mks a_mr a_cnt a_wd a_one a_two a_mmade a_mrest a_old v_thrown v_mask v_key v_wait v_problem v_code v_length v_cond v_masks v_addr v_mwanted v_wrong v_after v_calls v_oneB v_twoB) := hD.sub [0] (by decide) rfl
                    have hFc := va_free (wc := (wX12_meet cI cB a_mo a_mem a_mks a_mr a_cnt a_wd a_one a_two a_mmade a_mrest a_old v_thrown v_mask v_key v_wait v_problem v_code v_length v_cond v_masks v_addr v_mwanted v_wrong v_after v_calls v_oneB v_twoB)) hD hS hA [0] rfl
                    refine va_callv (va_runV (As := [.int 1]) (rest := []) ⟨hx, hb, hml, hown, hts⟩ (kX12_meet l D cI cB a_mo a_mem a_mks a_mr a_cnt a_wd a_one a_two a_mmade a_mrest a_old H.size v_thrown v_mask v_key v_wait v_problem v_code v_length v_cond v_masks v_addr v_mwanted v_wrong v_after v_calls v_oneB v_twoB 1) (cwV 1 hts (gd_V wd_838 wd_839 wd_840 wd_807 wd_835) rfl rfl rfl hdX12_meet ⟨Nat.le_of_ble_eq_true rfl, Nat.le_of_ble_eq_true rfl⟩) (preV_std (ci := 12) (q0 := 0) hPc hK hDc hNW rfl rfl) rfl rfl hl.1 rfl (lv_room (Nat.le_of_ble_eq_true rfl)) dX12_stored_246 ⟨Nat.zero_le _, Nat.zero_le _⟩) hS (fun q _ h => hFc q h) hFc (fun u_246 t9 H1 locs ht9 hvm9 hw9 hB9 hz9 hk9 hS => ?_)
                    have eu_246 : u_246 = fX12_meet 1 v_wrong := hw9
                    obtain ⟨hP, hD⟩ := back_std (w1 := (wX12_meet cI cB a_mo a_mem a_mks a_mr a_cnt a_wd a_one a_two a_mmade a_mrest a_old v_thrown v_mask v_key v_wait v_problem v_code v_length v_cond v_masks v_addr v_mwanted u_246 v_after v_calls v_oneB v_twoB)) (w2 := (wX12_stored cI cB a_mo a_mem a_mks a_mr a_cnt a_wd a_one a_two a_mmade a_mrest a_old v_thrown v_mask v_key v_wait v_problem v_code v_length v_cond v_masks v_addr v_mwanted u_246 v_after v_calls v_oneB v_twoB v_mF v_mkF v_mrF v_wdF)) (wr := [(a_mem, .inl (cI, 8192, .inl v_mF)), (a_mks, .inl (cI, 4, .inl v_mkF)), (a_mr, .inl (cI, 16, .inl v_mrF)), (a_wd, .inl (cI, 6, .inl v_wdF))]) hP hD [0] [1, 2, 3, 4] [4, 0, 1, 2, 3] rfl rfl (by decide) (by decide) hk9 hFc hB9 ht9 (by decide) rfl
                    clear hB9 hk9 hz9 hvm9 ht9 hFc hPc hDc
                    generalize H1 = H at hP hS ⊢
                    have hf9 : (v_mask, v_key, v_wait, v_problem, v_code, v_length, v_cond, v_masks, v_addr, u_246, v_after, v_mF, v_mrF) = fX12_stored x0 v_mask v_key v_wait v_problem v_code v_length v_cond v_masks v_addr v_wrong v_after v_mF v_mkF v_mrF v_wdF := by subst ex_18; subst ex_8; simp only [fX12_stored, ← er_21, ← eu_246]; (try simp only [if_pos c_30, if_neg c_58, if_neg c_65, if_neg c_84, if_neg c_91, if_neg c_121, if_pos c_128, if_neg c_151, if_neg c_198])
                    exact W.vret hx hb hr (fun t9 ht9 hW9 => ⟨⟨(v_mask, v_key, v_wait, v_problem, v_code, v_length, v_cond, v_masks, v_addr, u_246, v_after, v_mF, v_mrF), rfl, hf9, ⟨by rw [ht9]; exact hP, va_K.moved hW9.alike hK, hD⟩⟩, hS.F ht9⟩) hS.2.2 dX12_stored_249
                  · skip
                    refine lv_aload_n hx hb dX12_stored_201 rfl (lv_at hl 3 rfl) ?_
                    have hPc : va_P D vwCl (wX12_supervisor cI cB a_mo a_mem a_mks a_mr a_cnt a_wd a_one a_two a_mmade a_mrest a_old v_thrown v_mask v_key v_wait v_problem v_code v_length v_cond v_masks v_addr v_mwanted v_wrong v_after v_calls v_oneB v_twoB) H := hP.sub [0] rfl
                    have hDc : va_D A (wX12_supervisor cI cB a_mo a_mem a_mks a_mr a_cnt a_wd a_one a_two a_mmade a_mrest a_old v_thrown v_mask v_key v_wait v_problem v_code v_length v_cond v_masks v_addr v_mwanted v_wrong v_after v_calls v_oneB v_twoB) := hD.sub [0] (by decide) rfl
                    have hFc := va_free (wc := (wX12_supervisor cI cB a_mo a_mem a_mks a_mr a_cnt a_wd a_one a_two a_mmade a_mrest a_old v_thrown v_mask v_key v_wait v_problem v_code v_length v_cond v_masks v_addr v_mwanted v_wrong v_after v_calls v_oneB v_twoB)) hD hS hA [0] rfl
                    refine va_callv (va_runV (As := []) (rest := []) ⟨hx, hb, hml, hown, hts⟩ (kX12_supervisor l D cI cB a_mo a_mem a_mks a_mr a_cnt a_wd a_one a_two a_mmade a_mrest a_old H.size v_thrown v_mask v_key v_wait v_problem v_code v_length v_cond v_masks v_addr v_mwanted v_wrong v_after v_calls v_oneB v_twoB ) (cwV 0 hts (gd_V wd_913 wd_914 wd_915 wd_807 wd_842) rfl rfl rfl hdX12_supervisor ⟨Nat.le_of_ble_eq_true rfl, Nat.le_of_ble_eq_true rfl⟩) (preV_std (ci := 12) (q0 := 0) hPc hK hDc hNW rfl rfl) rfl rfl hl.1 rfl (lv_room (Nat.le_of_ble_eq_true rfl)) dX12_stored_202 ⟨Nat.zero_le _, Nat.zero_le _⟩) hS (fun q _ h => hFc q h) hFc (fun u_202 t9 H1 locs ht9 hvm9 hw9 hB9 hz9 hk9 hS => ?_)
                    have eu_202 : u_202 = fX12_supervisor v_problem v_wrong := hw9
                    obtain ⟨hP, hD⟩ := back_std (w1 := (wX12_supervisor cI cB a_mo a_mem a_mks a_mr a_cnt a_wd a_one a_two a_mmade a_mrest a_old v_thrown v_mask v_key v_wait v_problem v_code v_length v_cond v_masks v_addr v_mwanted u_202 v_after v_calls v_oneB v_twoB)) (w2 := (wX12_stored cI cB a_mo a_mem a_mks a_mr a_cnt a_wd a_one a_two a_mmade a_mrest a_old v_thrown v_mask v_key v_wait v_problem v_code v_length v_cond v_masks v_addr v_mwanted u_202 v_after v_calls v_oneB v_twoB v_mF v_mkF v_mrF v_wdF)) (wr := [(a_mem, .inl (cI, 8192, .inl v_mF)), (a_mks, .inl (cI, 4, .inl v_mkF)), (a_mr, .inl (cI, 16, .inl v_mrF)), (a_wd, .inl (cI, 6, .inl v_wdF))]) hP hD [0] [1, 2, 3, 4] [4, 0, 1, 2, 3] rfl rfl (by decide) (by decide) hk9 hFc hB9 ht9 (by decide) rfl
                    clear hB9 hk9 hz9 hvm9 ht9 hFc hPc hDc
                    generalize H1 = H at hP hS ⊢
                    refine lv_aload_n hx hb dX12_stored_205 rfl (lv_at hl 3 rfl) ?_
                    refine lv_iload hx hb dX12_stored_206 (lv_at hl 0 rfl) ?_
                    refine lv_bipush (v := 8) hx hb dX12_stored_208 (by decide) ?_
                    refine lv_iconst (v := 0) hx hb dX12_stored_210 (by decide) ?_
                    have hPc : va_P D vwCl (wX12_look cI cB a_mo a_mem a_mks a_mr a_cnt a_wd a_one a_two a_mmade a_mrest a_old v_thrown v_mask v_key v_wait v_problem v_code v_length v_cond v_masks v_addr v_mwanted u_202 v_after v_calls v_oneB v_twoB v_mkF) H := hP.sub [0, 2] rfl
                    have hDc : va_D A (wX12_look cI cB a_mo a_mem a_mks a_mr a_cnt a_wd a_one a_two a_mmade a_mrest a_old v_thrown v_mask v_key v_wait v_problem v_code v_length v_cond v_masks v_addr v_mwanted u_202 v_after v_calls v_oneB v_twoB v_mkF) := hD.sub [0, 2] (by decide) rfl
                    have hFc := va_free (wc := (wX12_look cI cB a_mo a_mem a_mks a_mr a_cnt a_wd a_one a_two a_mmade a_mrest a_old v_thrown v_mask v_key v_wait v_problem v_code v_length v_cond v_masks v_addr v_mwanted u_202 v_after v_calls v_oneB v_twoB v_mkF)) hD hS hA [0, 2] rfl
                    refine va_callv (va_runV (As := [.int r_21, .int 8, .int 0]) (rest := []) ⟨hx, hb, hml, hown, hts⟩ (kX12_look l D cI cB a_mo a_mem a_mks a_mr a_cnt a_wd a_one a_two a_mmade a_mrest a_old H.size v_thrown v_mask v_key v_wait v_problem v_code v_length v_cond v_masks v_addr v_mwanted u_202 v_after v_calls v_oneB v_twoB v_mkF r_21 8 0) (cwV 3 hts (gd_V wd_857 wd_858 wd_859 wd_807 wd_837) rfl rfl rfl hdX12_look ⟨Nat.le_of_ble_eq_true rfl, Nat.le_of_ble_eq_true rfl⟩) (preV_std (ci := 12) (q0 := 0) hPc hK hDc hNW rfl rfl) rfl rfl hl.1 rfl (lv_room (Nat.le_of_ble_eq_true rfl)) dX12_stored_211 ⟨Nat.zero_le _, Nat.zero_le _⟩) hS (fun q _ h => hFc q h) hFc (fun u_211 t9 H1 locs ht9 hvm9 hw9 hB9 hz9 hk9 hS => ?_)
                    have eu_211 : u_211 = fX12_look r_21 8 0 v_key u_202 v_mkF := hw9
                    obtain ⟨hP, hD⟩ := back_std (w1 := (wX12_look cI cB a_mo a_mem a_mks a_mr a_cnt a_wd a_one a_two a_mmade a_mrest a_old v_thrown v_mask v_key v_wait v_problem v_code v_length v_cond v_masks v_addr v_mwanted u_211 v_after v_calls v_oneB v_twoB v_mkF)) (w2 := (wX12_stored cI cB a_mo a_mem a_mks a_mr a_cnt a_wd a_one a_two a_mmade a_mrest a_old v_thrown v_mask v_key v_wait v_problem v_code v_length v_cond v_masks v_addr v_mwanted u_211 v_after v_calls v_oneB v_twoB v_mF v_mkF v_mrF v_wdF)) (wr := [(a_mem, .inl (cI, 8192, .inl v_mF)), (a_mr, .inl (cI, 16, .inl v_mrF)), (a_wd, .inl (cI, 6, .inl v_wdF))]) hP hD [0, 2] [1, 3, 4] [3, 0, 4, 1, 2] rfl rfl (by decide) (by decide) hk9 hFc hB9 ht9 (by decide) rfl
                    clear hB9 hk9 hz9 hvm9 ht9 hFc hPc hDc
                    generalize H1 = H at hP hS ⊢
                    refine lv_aload_n hx hb dX12_stored_214 rfl (lv_at hl 3 rfl) ?_
                    refine lv_iload hx hb dX12_stored_215 (lv_at hl 0 rfl) ?_
                    refine lv_bipush (v := 8) hx hb dX12_stored_217 (by decide) ?_
                    have hPc : va_P D vwCl (wX12_even cI cB a_mo a_mem a_mks a_mr a_cnt a_wd a_one a_two a_mmade a_mrest a_old v_thrown v_mask v_key v_wait v_problem v_code v_length v_cond v_masks v_addr v_mwanted u_211 v_after v_calls v_oneB v_twoB) H := hP.sub [0] rfl
                    have hDc : va_D A (wX12_even cI cB a_mo a_mem a_mks a_mr a_cnt a_wd a_one a_two a_mmade a_mrest a_old v_thrown v_mask v_key v_wait v_problem v_code v_length v_cond v_masks v_addr v_mwanted u_211 v_after v_calls v_oneB v_twoB) := hD.sub [0] (by decide) rfl
                    have hFc := va_free (wc := (wX12_even cI cB a_mo a_mem a_mks a_mr a_cnt a_wd a_one a_two a_mmade a_mrest a_old v_thrown v_mask v_key v_wait v_problem v_code v_length v_cond v_masks v_addr v_mwanted u_211 v_after v_calls v_oneB v_twoB)) hD hS hA [0] rfl
                    refine va_callv (va_runV (As := [.int r_21, .int 8]) (rest := []) ⟨hx, hb, hml, hown, hts⟩ (kX12_even l D cI cB a_mo a_mem a_mks a_mr a_cnt a_wd a_one a_two a_mmade a_mrest a_old H.size v_thrown v_mask v_key v_wait v_problem v_code v_length v_cond v_masks v_addr v_mwanted u_211 v_after v_calls v_oneB v_twoB r_21 8 (by first | with_reducible assumption | decide | (unfold vp_in; decide))) (cwV 2 hts (gd_V wd_860 wd_861 wd_862 wd_807 wd_841) rfl rfl rfl hdX12_even ⟨Nat.le_of_ble_eq_true rfl, Nat.le_of_ble_eq_true rfl⟩) (preV_std (ci := 12) (q0 := 0) hPc hK hDc hNW rfl rfl) rfl rfl hl.1 rfl (lv_room (Nat.le_of_ble_eq_true rfl)) dX12_stored_219 ⟨Nat.zero_le _, Nat.zero_le _⟩) hS (fun q _ h => hFc q h) hFc (fun u_219 t9 H1 locs ht9 hvm9 hw9 hB9 hz9 hk9 hS => ?_)
                    have eu_219 : u_219 = fX12_even r_21 8 u_211 := hw9
                    obtain ⟨hP, hD⟩ := back_std (w1 := (wX12_even cI cB a_mo a_mem a_mks a_mr a_cnt a_wd a_one a_two a_mmade a_mrest a_old v_thrown v_mask v_key v_wait v_problem v_code v_length v_cond v_masks v_addr v_mwanted u_219 v_after v_calls v_oneB v_twoB)) (w2 := (wX12_stored cI cB a_mo a_mem a_mks a_mr a_cnt a_wd a_one a_two a_mmade a_mrest a_old v_thrown v_mask v_key v_wait v_problem v_code v_length v_cond v_masks v_addr v_mwanted u_219 v_after v_calls v_oneB v_twoB v_mF v_mkF v_mrF v_wdF)) (wr := [(a_mem, .inl (cI, 8192, .inl v_mF)), (a_mks, .inl (cI, 4, .inl v_mkF)), (a_mr, .inl (cI, 16, .inl v_mrF)), (a_wd, .inl (cI, 6, .inl v_wdF))]) hP hD [0] [1, 2, 3, 4] [4, 0, 1, 2, 3] rfl rfl (by decide) (by decide) hk9 hFc hB9 ht9 (by decide) rfl
                    clear hB9 hk9 hz9 hvm9 ht9 hFc hPc hDc
                    generalize H1 = H at hP hS ⊢
                    refine lv_aload_n hx hb dX12_stored_222 rfl (lv_at hl 3 rfl) ?_
                    refine va_get (D := D) (ci := 12) (v := .int u_219) (C := RX12) (T := TX12) (N := 26) hx hb hts in_X12 hown hK hP 0 rfl rfl 16 (by decide) q_1 (fun _ h9 => h9) rfl dX12_stored_223 ?_
                    refine lv_if_ne (tgt := 249) hx hb dX12_stored_226 (by decide) (fun c_226 => ?_) (fun c_226 => ?_)
                    · skip
                      have hf9 : (v_mask, v_key, v_wait, v_problem, v_code, v_length, v_cond, v_masks, v_addr, u_219, v_after, v_mF, v_mrF) = fX12_stored x0 v_mask v_key v_wait v_problem v_code v_length v_cond v_masks v_addr v_wrong v_after v_mF v_mkF v_mrF v_wdF := by subst ex_18; subst ex_8; simp only [fX12_stored, ← er_21, ← eu_202, ← eu_211, ← eu_219]; (try simp only [if_pos c_30, if_neg c_58, if_neg c_65, if_neg c_84, if_neg c_91, if_neg c_121, if_pos c_128, if_neg c_151, if_pos c_198, if_neg c_226])
                      exact W.vret hx hb hr (fun t9 ht9 hW9 => ⟨⟨(v_mask, v_key, v_wait, v_problem, v_code, v_length, v_cond, v_masks, v_addr, u_219, v_after, v_mF, v_mrF), rfl, hf9, ⟨by rw [ht9]; exact hP, va_K.moved hW9.alike hK, hD⟩⟩, hS.F ht9⟩) hS.2.2 dX12_stored_249
                    · skip
                      refine lv_aload_n hx hb dX12_stored_229 rfl (lv_at hl 3 rfl) ?_
                      refine lv_aload_n hx hb dX12_stored_230 rfl (lv_at hl 3 rfl) ?_
                      refine lv_iload hx hb dX12_stored_231 (lv_at hl 0 rfl) ?_
                      refine lv_bipush (v := 8) hx hb dX12_stored_233 (by decide) ?_
                      have hPc : va_P D vwCl (wX12_fetch cI cB a_mo a_mem a_mks a_mr a_cnt a_wd a_one a_two a_mmade a_mrest a_old v_thrown v_mask v_key v_wait v_problem v_code v_length v_cond v_masks v_addr v_mwanted u_219 v_after v_calls v_oneB v_twoB v_mF) H := hP.sub [0, 1] rfl
                      have hDc : va_D A (wX12_fetch cI cB a_mo a_mem a_mks a_mr a_cnt a_wd a_one a_two a_mmade a_mrest a_old v_thrown v_mask v_key v_wait v_problem v_code v_length v_cond v_masks v_addr v_mwanted u_219 v_after v_calls v_oneB v_twoB v_mF) := hD.sub [0, 1] (by decide) rfl
                      have hFc := va_free (wc := (wX12_fetch cI cB a_mo a_mem a_mks a_mr a_cnt a_wd a_one a_two a_mmade a_mrest a_old v_thrown v_mask v_key v_wait v_problem v_code v_length v_cond v_masks v_addr v_mwanted u_219 v_after v_calls v_oneB v_twoB v_mF)) hD hS hA [0, 1] rfl
                      refine va_calll (va_runV (As := [.int r_21, .int 8]) (rest := [.ref a_mo]) ⟨hx, hb, hml, hown, hts⟩ (kX12_fetch l D cI cB a_mo a_mem a_mks a_mr a_cnt a_wd a_one a_two a_mmade a_mrest a_old H.size v_thrown v_mask v_key v_wait v_problem v_code v_length v_cond v_masks v_addr v_mwanted u_219 v_after v_calls v_oneB v_twoB v_mF r_21 8 (op_in ha (Or.inr (Or.inr (Or.inr rfl))) (by rw [eu_202]; exact sup_nn hw) eu_211 eu_219 (eq0_np c_226))) (cwV 2 hts (gd_V wd_830 wd_831 wd_832 wd_807 wd_819) rfl rfl rfl hdX12_fetch ⟨Nat.le_of_ble_eq_true rfl, Nat.le_of_ble_eq_true rfl⟩) (preV_std (ci := 12) (q0 := 0) hPc hK hDc hNW rfl rfl) rfl rfl hl.1 rfl (lv_room (Nat.le_of_ble_eq_true rfl)) dX12_stored_235 ⟨Nat.zero_le _, Nat.zero_le _⟩) hS (fun q _ h => hFc q h) hFc (fun r_235 u_235 t9 H1 locs ht9 hvm9 hw9 hB9 hz9 hk9 hS => ?_)
                      have er_235 : r_235 = fX12_fetch r_21 8 v_mF := hw9
                      obtain ⟨hP, hD⟩ := back_std (w1 := (wX12_fetch cI cB a_mo a_mem a_mks a_mr a_cnt a_wd a_one a_two a_mmade a_mrest a_old v_thrown v_mask v_key v_wait v_problem v_code v_length v_cond v_masks v_addr v_mwanted u_219 v_after v_calls v_oneB v_twoB v_mF)) (w2 := (wX12_stored cI cB a_mo a_mem a_mks a_mr a_cnt a_wd a_one a_two a_mmade a_mrest a_old v_thrown v_mask v_key v_wait v_problem v_code v_length v_cond v_masks v_addr v_mwanted u_219 v_after v_calls v_oneB v_twoB v_mF v_mkF v_mrF v_wdF)) (wr := [(a_mks, .inl (cI, 4, .inl v_mkF)), (a_mr, .inl (cI, 16, .inl v_mrF)), (a_wd, .inl (cI, 6, .inl v_wdF))]) hP hD [0, 1] [2, 3, 4] [3, 4, 0, 1, 2] rfl rfl (by decide) (by decide) hk9 hFc hB9 ht9 (by decide) rfl
                      clear hB9 hk9 hz9 hvm9 ht9 hFc hPc hDc
                      generalize H1 = H at hP hS ⊢
                      have hPc : va_P D vwCl (wX12_become cI cB a_mo a_mem a_mks a_mr a_cnt a_wd a_one a_two a_mmade a_mrest a_old v_thrown v_mask v_key v_wait v_problem v_code v_length v_cond v_masks v_addr v_mwanted u_219 v_after v_calls v_oneB v_twoB) H := hP.sub [0] rfl
                      have hDc : va_D A (wX12_become cI cB a_mo a_mem a_mks a_mr a_cnt a_wd a_one a_two a_mmade a_mrest a_old v_thrown v_mask v_key v_wait v_problem v_code v_length v_cond v_masks v_addr v_mwanted u_219 v_after v_calls v_oneB v_twoB) := hD.sub [0] (by decide) rfl
                      have hFc := va_free (wc := (wX12_become cI cB a_mo a_mem a_mks a_mr a_cnt a_wd a_one a_two a_mmade a_mrest a_old v_thrown v_mask v_key v_wait v_problem v_code v_length v_cond v_masks v_addr v_mwanted u_219 v_after v_calls v_oneB v_twoB)) hD hS hA [0] rfl
                      refine va_callv (va_runV (As := [.long r_235]) (rest := []) ⟨hx, hb, hml, hown, hts⟩ (kX12_become l D cI cB a_mo a_mem a_mks a_mr a_cnt a_wd a_one a_two a_mmade a_mrest a_old H.size v_thrown v_mask v_key v_wait v_problem v_code v_length v_cond v_masks v_addr v_mwanted u_219 v_after v_calls v_oneB v_twoB r_235) (cwV 1 hts (gd_V wd_816 wd_817 wd_818 wd_807 wd_808) rfl rfl rfl hdX12_become ⟨Nat.le_of_ble_eq_true rfl, Nat.le_of_ble_eq_true rfl⟩) (preV_std (ci := 12) (q0 := 0) hPc hK hDc hNW rfl rfl) rfl rfl hl.1 rfl (lv_room (Nat.le_of_ble_eq_true rfl)) dX12_stored_238 ⟨Nat.zero_le _, Nat.zero_le _⟩) hS (fun q _ h => hFc q h) hFc (fun u_238 t9 H1 locs ht9 hvm9 hw9 hB9 hz9 hk9 hS => ?_)
                      have eu_238 : u_238 = fX12_become r_235 v_mask v_key v_wait v_problem v_code v_length v_cond v_masks v_addr := hw9
                      obtain ⟨hP, hD⟩ := back_std (w1 := (wX12_become cI cB a_mo a_mem a_mks a_mr a_cnt a_wd a_one a_two a_mmade a_mrest a_old v_thrown u_238.1 u_238.2.1 u_238.2.2.1 u_238.2.2.2.1 u_238.2.2.2.2.1 u_238.2.2.2.2.2.1 u_238.2.2.2.2.2.2.1 u_238.2.2.2.2.2.2.2.1 u_238.2.2.2.2.2.2.2.2 v_mwanted u_219 v_after v_calls v_oneB v_twoB)) (w2 := (wX12_stored cI cB a_mo a_mem a_mks a_mr a_cnt a_wd a_one a_two a_mmade a_mrest a_old v_thrown u_238.1 u_238.2.1 u_238.2.2.1 u_238.2.2.2.1 u_238.2.2.2.2.1 u_238.2.2.2.2.2.1 u_238.2.2.2.2.2.2.1 u_238.2.2.2.2.2.2.2.1 u_238.2.2.2.2.2.2.2.2 v_mwanted u_219 v_after v_calls v_oneB v_twoB v_mF v_mkF v_mrF v_wdF)) (wr := [(a_mem, .inl (cI, 8192, .inl v_mF)), (a_mks, .inl (cI, 4, .inl v_mkF)), (a_mr, .inl (cI, 16, .inl v_mrF)), (a_wd, .inl (cI, 6, .inl v_wdF))]) hP hD [0] [1, 2, 3, 4] [4, 0, 1, 2, 3] rfl rfl (by decide) (by decide) hk9 hFc hB9 ht9 (by decide) rfl
                      clear hB9 hk9 hz9 hvm9 ht9 hFc hPc hDc
                      generalize H1 = H at hP hS ⊢
                      refine lv_goto (tgt := 249) hx hb dX12_stored_241 (by decide) ?_
                      have hf9 : (u_238.1, u_238.2.1, u_238.2.2.1, u_238.2.2.2.1, u_238.2.2.2.2.1, u_238.2.2.2.2.2.1, u_238.2.2.2.2.2.2.1, u_238.2.2.2.2.2.2.2.1, u_238.2.2.2.2.2.2.2.2, u_219, v_after, v_mF, v_mrF) = fX12_stored x0 v_mask v_key v_wait v_problem v_code v_length v_cond v_masks v_addr v_wrong v_after v_mF v_mkF v_mrF v_wdF := by subst ex_18; subst ex_8; simp only [fX12_stored, ← er_21, ← eu_202, ← eu_211, ← eu_219, ← er_235, ← eu_238]; (try simp only [if_pos c_30, if_neg c_58, if_neg c_65, if_neg c_84, if_neg c_91, if_neg c_121, if_pos c_128, if_neg c_151, if_pos c_198, if_pos c_226])
                      exact W.vret hx hb hr (fun t9 ht9 hW9 => ⟨⟨(u_238.1, u_238.2.1, u_238.2.2.1, u_238.2.2.2.1, u_238.2.2.2.2.1, u_238.2.2.2.2.2.1, u_238.2.2.2.2.2.2.1, u_238.2.2.2.2.2.2.2.1, u_238.2.2.2.2.2.2.2.2, u_219, v_after, v_mF, v_mrF), rfl, hf9, ⟨by rw [ht9]; exact hP, va_K.moved hW9.alike hK, hD⟩⟩, hS.F ht9⟩) hS.2.2 dX12_stored_249
                · skip
                  refine lv_aload_n hx hb dX12_stored_154 rfl (lv_at hl 3 rfl) ?_
                  have hPc : va_P D vwCl (wX12_supervisor cI cB a_mo a_mem a_mks a_mr a_cnt a_wd a_one a_two a_mmade a_mrest a_old v_thrown v_mask v_key v_wait v_problem v_code v_length v_cond v_masks v_addr v_mwanted v_wrong v_after v_calls v_oneB v_twoB) H := hP.sub [0] rfl
                  have hDc : va_D A (wX12_supervisor cI cB a_mo a_mem a_mks a_mr a_cnt a_wd a_one a_two a_mmade a_mrest a_old v_thrown v_mask v_key v_wait v_problem v_code v_length v_cond v_masks v_addr v_mwanted v_wrong v_after v_calls v_oneB v_twoB) := hD.sub [0] (by decide) rfl
                  have hFc := va_free (wc := (wX12_supervisor cI cB a_mo a_mem a_mks a_mr a_cnt a_wd a_one a_two a_mmade a_mrest a_old v_thrown v_mask v_key v_wait v_problem v_code v_length v_cond v_masks v_addr v_mwanted v_wrong v_after v_calls v_oneB v_twoB)) hD hS hA [0] rfl
                  refine va_callv (va_runV (As := []) (rest := []) ⟨hx, hb, hml, hown, hts⟩ (kX12_supervisor l D cI cB a_mo a_mem a_mks a_mr a_cnt a_wd a_one a_two a_mmade a_mrest a_old H.size v_thrown v_mask v_key v_wait v_problem v_code v_length v_cond v_masks v_addr v_mwanted v_wrong v_after v_calls v_oneB v_twoB ) (cwV 0 hts (gd_V wd_913 wd_914 wd_915 wd_807 wd_842) rfl rfl rfl hdX12_supervisor ⟨Nat.le_of_ble_eq_true rfl, Nat.le_of_ble_eq_true rfl⟩) (preV_std (ci := 12) (q0 := 0) hPc hK hDc hNW rfl rfl) rfl rfl hl.1 rfl (lv_room (Nat.le_of_ble_eq_true rfl)) dX12_stored_155 ⟨Nat.zero_le _, Nat.zero_le _⟩) hS (fun q _ h => hFc q h) hFc (fun u_155 t9 H1 locs ht9 hvm9 hw9 hB9 hz9 hk9 hS => ?_)
                  have eu_155 : u_155 = fX12_supervisor v_problem v_wrong := hw9
                  obtain ⟨hP, hD⟩ := back_std (w1 := (wX12_supervisor cI cB a_mo a_mem a_mks a_mr a_cnt a_wd a_one a_two a_mmade a_mrest a_old v_thrown v_mask v_key v_wait v_problem v_code v_length v_cond v_masks v_addr v_mwanted u_155 v_after v_calls v_oneB v_twoB)) (w2 := (wX12_stored cI cB a_mo a_mem a_mks a_mr a_cnt a_wd a_one a_two a_mmade a_mrest a_old v_thrown v_mask v_key v_wait v_problem v_code v_length v_cond v_masks v_addr v_mwanted u_155 v_after v_calls v_oneB v_twoB v_mF v_mkF v_mrF v_wdF)) (wr := [(a_mem, .inl (cI, 8192, .inl v_mF)), (a_mks, .inl (cI, 4, .inl v_mkF)), (a_mr, .inl (cI, 16, .inl v_mrF)), (a_wd, .inl (cI, 6, .inl v_wdF))]) hP hD [0] [1, 2, 3, 4] [4, 0, 1, 2, 3] rfl rfl (by decide) (by decide) hk9 hFc hB9 ht9 (by decide) rfl
                  clear hB9 hk9 hz9 hvm9 ht9 hFc hPc hDc
                  generalize H1 = H at hP hS ⊢
                  refine lv_aload_n hx hb dX12_stored_158 rfl (lv_at hl 3 rfl) ?_
                  refine lv_iload hx hb dX12_stored_159 (lv_at hl 0 rfl) ?_
                  refine lv_iconst (v := 1) hx hb dX12_stored_161 (by decide) ?_
                  refine lv_iconst (v := 0) hx hb dX12_stored_162 (by decide) ?_
                  have hPc : va_P D vwCl (wX12_look cI cB a_mo a_mem a_mks a_mr a_cnt a_wd a_one a_two a_mmade a_mrest a_old v_thrown v_mask v_key v_wait v_problem v_code v_length v_cond v_masks v_addr v_mwanted u_155 v_after v_calls v_oneB v_twoB v_mkF) H := hP.sub [0, 2] rfl
                  have hDc : va_D A (wX12_look cI cB a_mo a_mem a_mks a_mr a_cnt a_wd a_one a_two a_mmade a_mrest a_old v_thrown v_mask v_key v_wait v_problem v_code v_length v_cond v_masks v_addr v_mwanted u_155 v_after v_calls v_oneB v_twoB v_mkF) := hD.sub [0, 2] (by decide) rfl
                  have hFc := va_free (wc := (wX12_look cI cB a_mo a_mem a_mks a_mr a_cnt a_wd a_one a_two a_mmade a_mrest a_old v_thrown v_mask v_key v_wait v_problem v_code v_length v_cond v_masks v_addr v_mwanted u_155 v_after v_calls v_oneB v_twoB v_mkF)) hD hS hA [0, 2] rfl
                  refine va_callv (va_runV (As := [.int r_21, .int 1, .int 0]) (rest := []) ⟨hx, hb, hml, hown, hts⟩ (kX12_look l D cI cB a_mo a_mem a_mks a_mr a_cnt a_wd a_one a_two a_mmade a_mrest a_old H.size v_thrown v_mask v_key v_wait v_problem v_code v_length v_cond v_masks v_addr v_mwanted u_155 v_after v_calls v_oneB v_twoB v_mkF r_21 1 0) (cwV 3 hts (gd_V wd_857 wd_858 wd_859 wd_807 wd_837) rfl rfl rfl hdX12_look ⟨Nat.le_of_ble_eq_true rfl, Nat.le_of_ble_eq_true rfl⟩) (preV_std (ci := 12) (q0 := 0) hPc hK hDc hNW rfl rfl) rfl rfl hl.1 rfl (lv_room (Nat.le_of_ble_eq_true rfl)) dX12_stored_163 ⟨Nat.zero_le _, Nat.zero_le _⟩) hS (fun q _ h => hFc q h) hFc (fun u_163 t9 H1 locs ht9 hvm9 hw9 hB9 hz9 hk9 hS => ?_)
                  have eu_163 : u_163 = fX12_look r_21 1 0 v_key u_155 v_mkF := hw9
                  obtain ⟨hP, hD⟩ := back_std (w1 := (wX12_look cI cB a_mo a_mem a_mks a_mr a_cnt a_wd a_one a_two a_mmade a_mrest a_old v_thrown v_mask v_key v_wait v_problem v_code v_length v_cond v_masks v_addr v_mwanted u_163 v_after v_calls v_oneB v_twoB v_mkF)) (w2 := (wX12_stored cI cB a_mo a_mem a_mks a_mr a_cnt a_wd a_one a_two a_mmade a_mrest a_old v_thrown v_mask v_key v_wait v_problem v_code v_length v_cond v_masks v_addr v_mwanted u_163 v_after v_calls v_oneB v_twoB v_mF v_mkF v_mrF v_wdF)) (wr := [(a_mem, .inl (cI, 8192, .inl v_mF)), (a_mr, .inl (cI, 16, .inl v_mrF)), (a_wd, .inl (cI, 6, .inl v_wdF))]) hP hD [0, 2] [1, 3, 4] [3, 0, 4, 1, 2] rfl rfl (by decide) (by decide) hk9 hFc hB9 ht9 (by decide) rfl
                  clear hB9 hk9 hz9 hvm9 ht9 hFc hPc hDc
                  generalize H1 = H at hP hS ⊢
                  refine lv_aload_n hx hb dX12_stored_166 rfl (lv_at hl 3 rfl) ?_
                  refine lv_aload_n hx hb dX12_stored_167 rfl (lv_at hl 3 rfl) ?_
                  refine va_get (D := D) (ci := 12) (v := .int u_163) (C := RX12) (T := TX12) (N := 26) hx hb hts in_X12 hown hK hP 0 rfl rfl 16 (by decide) q_1 (fun _ h9 => h9) rfl dX12_stored_168 ?_
                  have J_188 : ∀ (m_188 : Int32), m_188 = (if u_163 ≤ 0 then ((v_mF (r_21 : Int32).toNatClampNeg)) else (v_mask)) → ∀ (H : Heap) (locs : List Loc), va_P D vwCl (wX12_stored cI cB a_mo a_mem a_mks a_mr a_cnt a_wd a_one a_two a_mmade a_mrest a_old v_thrown v_mask v_key v_wait v_problem v_code v_length v_cond v_masks v_addr v_mwanted u_163 v_after v_calls v_oneB v_twoB v_mF v_mkF v_mrF v_wdF) H → va_D A (wX12_stored cI cB a_mo a_mem a_mks a_mr a_cnt a_wd a_one a_two a_mmade a_mrest a_old v_thrown v_mask v_key v_wait v_problem v_code v_length v_cond v_masks v_addr v_mwanted u_163 v_after v_calls v_oneB v_twoB v_mF v_mkF v_mrF v_wdF) → va_S A s.heap H locs → ∀ (ls : Array Slot), lv_has ls 5 [(0, .ref a_mo), (1, .int x0), (2, .int x_8), (3, .int x_18), (4, .int r_21)] → W p l e rmX12_stored s m ([.ref a_mo, .int x0] : List Value).toArray below meth c H locs 0 0 (MQ below (qX12_stored D cI cB a_mo a_mem a_mks a_mr a_cnt a_wd a_one a_two a_mmade a_mrest a_old v_thrown v_mask v_key v_wait v_problem v_code v_length v_cond v_masks v_addr v_mwanted v_wrong v_after v_calls v_oneB v_twoB v_mF v_mkF v_mrF v_wdF x0 A) ([.ref a_mo, .int x0] : List Value).toArray s 0 0 A) (F0 m 188 ls [.int m_188, .ref a_mo]) := by
                    intro m_188 em_188 H locs hP hD hS ls hl
                    try dsimp only at em_188
                    refine va_put (D := D) (ci := 12) (v := .int m_188) (ty := .int) (C := RX12) (T := TX12) (N := 26) hx hb hts in_X12 tyX12 tyX12_ok nmX12 hown hK hP hD hS 0 rfl rfl 4 (by decide) q_3 (fun _ h9 => h9) rfl (by decide +kernel) rfl rfl (Nat.le_of_ble_eq_true rfl) dX12_stored_188 (fun H locs hP hD hS => ?_)
                    have hP : va_P D vwCl (wX12_stored cI cB a_mo a_mem a_mks a_mr a_cnt a_wd a_one a_two a_mmade a_mrest a_old v_thrown m_188 v_key v_wait v_problem v_code v_length v_cond v_masks v_addr v_mwanted u_163 v_after v_calls v_oneB v_twoB v_mF v_mkF v_mrF v_wdF) H := hP
                    have hD : va_D A (wX12_stored cI cB a_mo a_mem a_mks a_mr a_cnt a_wd a_one a_two a_mmade a_mrest a_old v_thrown m_188 v_key v_wait v_problem v_code v_length v_cond v_masks v_addr v_mwanted u_163 v_after v_calls v_oneB v_twoB v_mF v_mkF v_mrF v_wdF) := hD
                    refine lv_goto (tgt := 249) hx hb dX12_stored_191 (by decide) ?_
                    have hf9 : (m_188, v_key, v_wait, v_problem, v_code, v_length, v_cond, v_masks, v_addr, u_163, v_after, v_mF, v_mrF) = fX12_stored x0 v_mask v_key v_wait v_problem v_code v_length v_cond v_masks v_addr v_wrong v_after v_mF v_mkF v_mrF v_wdF := by subst ex_18; subst ex_8; simp only [fX12_stored, ← er_21, ← eu_155, ← eu_163, ← em_188]; (try simp only [if_pos c_30, if_neg c_58, if_neg c_65, if_neg c_84, if_neg c_91, if_neg c_121, if_pos c_128, if_pos c_151])
                    exact W.vret hx hb hr (fun t9 ht9 hW9 => ⟨⟨(m_188, v_key, v_wait, v_problem, v_code, v_length, v_cond, v_masks, v_addr, u_163, v_after, v_mF, v_mrF), rfl, hf9, ⟨by rw [ht9]; exact hP, va_K.moved hW9.alike hK, hD⟩⟩, hS.F ht9⟩) hS.2.2 dX12_stored_249
                  refine lv_if_le (tgt := 181) hx hb dX12_stored_171 (by decide) (fun c_171 => ?_) (fun c_171 => ?_)
                  · skip
                    refine lv_aload_n hx hb dX12_stored_181 rfl (lv_at hl 3 rfl) ?_
                    refine va_get (D := D) (ci := 12) (v := .ref a_mem) (C := RX12) (T := TX12) (N := 26) hx hb hts in_X12 hown hK hP 0 rfl rfl 1 (by decide) q_2 (fun _ h9 => h9) rfl dX12_stored_182 ?_
                    refine lv_iload hx hb dX12_stored_185 (lv_at hl 0 rfl) ?_
                    refine va_iald hx hb hK hP 1 0 rfl rfl (lk_in ha (by rw [eu_155]; exact sup_nn hw) eu_163 c_171) dX12_stored_187 ?_
                    exact J_188 (v_mF (r_21 : Int32).toNatClampNeg) (by (try simp only [if_pos c_171])) _ _ hP hD hS ls (lv_sub hl [3, 4, 2, 1, 0] rfl)
                  · skip
                    refine lv_aload_n hx hb dX12_stored_174 rfl (lv_at hl 3 rfl) ?_
                    refine va_get (D := D) (ci := 12) (v := .int v_mask) (C := RX12) (T := TX12) (N := 26) hx hb hts in_X12 hown hK hP 0 rfl rfl 4 (by decide) q_3 (fun _ h9 => h9) rfl dX12_stored_175 ?_
                    refine lv_goto (tgt := 188) hx hb dX12_stored_178 (by decide) ?_
                    exact J_188 v_mask (by (try simp only [if_neg c_171])) _ _ hP hD hS ls (lv_sub hl [3, 4, 2, 1, 0] rfl)
              · skip
                refine lv_aload_n hx hb dX12_stored_131 rfl (lv_at hl 3 rfl) ?_
                refine lv_iload_n hx hb dX12_stored_132 rfl (lv_at hl 4 rfl) ?_
                refine lv_aload_n hx hb dX12_stored_133 rfl (lv_at hl 3 rfl) ?_
                refine va_get (D := D) (ci := 12) (v := .ref a_wd) (C := RX12) (T := TX12) (N := 26) hx hb hts in_X12 hown hK hP 0 rfl rfl 15 (by decide) q_0 (fun _ h9 => h9) rfl dX12_stored_134 ?_
                refine lv_iconst (v := 1) hx hb dX12_stored_137 (by decide) ?_
                refine va_iald hx hb hK hP 4 0 rfl rfl (by unfold vp_in; decide) dX12_stored_138 ?_
                refine lv_iload hx hb dX12_stored_139 (lv_at hl 0 rfl) ?_
                have hPc : va_P D vwCl (wX12_withByte cI cB a_mo a_mem a_mks a_mr a_cnt a_wd a_one a_two a_mmade a_mrest a_old v_thrown v_mask v_key v_wait v_problem v_code v_length v_cond v_masks v_addr v_mwanted v_wrong v_after v_calls v_oneB v_twoB v_mF v_mkF) H := hP.sub [0, 1, 2] rfl
                have hDc : va_D A (wX12_withByte cI cB a_mo a_mem a_mks a_mr a_cnt a_wd a_one a_two a_mmade a_mrest a_old v_thrown v_mask v_key v_wait v_problem v_code v_length v_cond v_masks v_addr v_mwanted v_wrong v_after v_calls v_oneB v_twoB v_mF v_mkF) := hD.sub [0, 1, 2] (by decide) rfl
                have hFc := va_free (wc := (wX12_withByte cI cB a_mo a_mem a_mks a_mr a_cnt a_wd a_one a_two a_mmade a_mrest a_old v_thrown v_mask v_key v_wait v_problem v_code v_length v_cond v_masks v_addr v_mwanted v_wrong v_after v_calls v_oneB v_twoB v_mF v_mkF)) hD hS hA [0, 1, 2] rfl
                refine va_callv (va_runV (As := [.int x0, .int ((v_wdF (1 : Int32).toNatClampNeg)), .int r_21]) (rest := []) ⟨hx, hb, hml, hown, hts⟩ (kX12_withByte l D cI cB a_mo a_mem a_mks a_mr a_cnt a_wd a_one a_two a_mmade a_mrest a_old H.size v_thrown v_mask v_key v_wait v_problem v_code v_length v_cond v_masks v_addr v_mwanted v_wrong v_after v_calls v_oneB v_twoB v_mF v_mkF x0 (v_wdF (1 : Int32).toNatClampNeg) r_21 (by first | with_reducible assumption | decide | (unfold vp_in; decide)) (by first | with_reducible assumption | decide | (unfold vp_in; decide))) (cwV 3 hts (gd_V wd_968 wd_969 wd_970 wd_807 wd_958) rfl rfl rfl hdX12_withByte ⟨Nat.le_of_ble_eq_true rfl, Nat.le_of_ble_eq_true rfl⟩) (preV_std (ci := 12) (q0 := 0) hPc hK hDc hNW rfl rfl) rfl rfl hl.1 rfl (lv_room (Nat.le_of_ble_eq_true rfl)) dX12_stored_141 ⟨Nat.zero_le _, Nat.zero_le _⟩) hS (fun q _ h => hFc q h) hFc (fun u_141 t9 H1 locs ht9 hvm9 hw9 hB9 hz9 hk9 hS => ?_)
                have eu_141 : u_141 = fX12_withByte x0 (v_wdF (1 : Int32).toNatClampNeg) r_21 v_key v_cond v_wrong v_mF v_mkF := hw9
                obtain ⟨hP, hD⟩ := back_std (w1 := (wX12_withByte cI cB a_mo a_mem a_mks a_mr a_cnt a_wd a_one a_two a_mmade a_mrest a_old v_thrown v_mask v_key v_wait v_problem v_code v_length u_141.1 v_masks v_addr v_mwanted u_141.2.1 v_after v_calls v_oneB v_twoB u_141.2.2 v_mkF)) (w2 := (wX12_stored cI cB a_mo a_mem a_mks a_mr a_cnt a_wd a_one a_two a_mmade a_mrest a_old v_thrown v_mask v_key v_wait v_problem v_code v_length u_141.1 v_masks v_addr v_mwanted u_141.2.1 v_after v_calls v_oneB v_twoB u_141.2.2 v_mkF v_mrF v_wdF)) (wr := [(a_mr, .inl (cI, 16, .inl v_mrF)), (a_wd, .inl (cI, 6, .inl v_wdF))]) hP hD [0, 1, 2] [3, 4] [2, 3, 4, 0, 1] rfl rfl (by decide) (by decide) hk9 hFc hB9 ht9 (by decide) rfl
                clear hB9 hk9 hz9 hvm9 ht9 hFc hPc hDc
                generalize H1 = H at hP hS ⊢
                refine lv_goto (tgt := 249) hx hb dX12_stored_144 (by decide) ?_
                have hf9 : (v_mask, v_key, v_wait, v_problem, v_code, v_length, u_141.1, v_masks, v_addr, u_141.2.1, v_after, u_141.2.2, v_mrF) = fX12_stored x0 v_mask v_key v_wait v_problem v_code v_length v_cond v_masks v_addr v_wrong v_after v_mF v_mkF v_mrF v_wdF := by subst ex_18; subst ex_8; simp only [fX12_stored, ← er_21, ← eu_141]; (try simp only [if_pos c_30, if_neg c_58, if_neg c_65, if_neg c_84, if_neg c_91, if_neg c_121, if_neg c_128])
                exact W.vret hx hb hr (fun t9 ht9 hW9 => ⟨⟨(v_mask, v_key, v_wait, v_problem, v_code, v_length, u_141.1, v_masks, v_addr, u_141.2.1, v_after, u_141.2.2, v_mrF), rfl, hf9, ⟨by rw [ht9]; exact hP, va_K.moved hW9.alike hK, hD⟩⟩, hS.F ht9⟩) hS.2.2 dX12_stored_249
          · skip
            refine lv_aload_n hx hb dX12_stored_94 rfl (lv_at hl 3 rfl) ?_
            refine lv_iload_n hx hb dX12_stored_95 rfl (lv_at hl 2 rfl) ?_
            refine lv_iload_n hx hb dX12_stored_96 rfl (lv_at hl 1 rfl) ?_
            refine lv_iload hx hb dX12_stored_97 (lv_at hl 0 rfl) ?_
            refine lv_iload_n hx hb dX12_stored_99 rfl (lv_at hl 4 rfl) ?_
            refine lv_sipush (v := 144) hx hb dX12_stored_100 (by decide) ?_
            refine lv_icmp_ne (tgt := 110) hx hb dX12_stored_103 (by decide) (fun c_103 => ?_) (fun c_103 => ?_)
            · skip
              refine lv_iconst (v := 0) hx hb dX12_stored_110 (by decide) ?_
              have hPc : va_P D vwCl (wX12_many cI cB a_mo a_mem a_mks a_mr a_cnt a_wd a_one a_two a_mmade a_mrest a_old v_thrown v_mask v_key v_wait v_problem v_code v_length v_cond v_masks v_addr v_mwanted v_wrong v_after v_calls v_oneB v_twoB v_mF v_mkF v_mrF) H := hP.sub [0, 1, 2, 3] rfl
              have hDc : va_D A (wX12_many cI cB a_mo a_mem a_mks a_mr a_cnt a_wd a_one a_two a_mmade a_mrest a_old v_thrown v_mask v_key v_wait v_problem v_code v_length v_cond v_masks v_addr v_mwanted v_wrong v_after v_calls v_oneB v_twoB v_mF v_mkF v_mrF) := hD.sub [0, 1, 2, 3] (by decide) rfl
              have hFc := va_free (wc := (wX12_many cI cB a_mo a_mem a_mks a_mr a_cnt a_wd a_one a_two a_mmade a_mrest a_old v_thrown v_mask v_key v_wait v_problem v_code v_length v_cond v_masks v_addr v_mwanted v_wrong v_after v_calls v_oneB v_twoB v_mF v_mkF v_mrF)) hD hS hA [0, 1, 2, 3] rfl
              refine va_callv (va_runV (As := [.int x_8, .int x_18, .int r_21, .int 0]) (rest := []) ⟨hx, hb, hml, hown, hts⟩ (kX12_many l D cI cB a_mo a_mem a_mks a_mr a_cnt a_wd a_one a_two a_mmade a_mrest a_old H.size v_thrown v_mask v_key v_wait v_problem v_code v_length v_cond v_masks v_addr v_mwanted v_wrong v_after v_calls v_oneB v_twoB v_mF v_mkF v_mrF x_8 x_18 r_21 0 (by first | with_reducible assumption | decide | (unfold vp_in; decide)) (by first | with_reducible assumption | decide | (unfold vp_in; decide))) (cwV 4 hts (gd_V wd_965 wd_966 wd_967 wd_807 wd_957) rfl rfl rfl hdX12_many ⟨Nat.le_of_ble_eq_true rfl, Nat.le_of_ble_eq_true rfl⟩) (preV_std (ci := 12) (q0 := 0) hPc hK hDc hNW rfl rfl) rfl rfl hl.1 rfl (lv_room (Nat.le_of_ble_eq_true rfl)) dX12_stored_111 ⟨Nat.zero_le _, Nat.zero_le _⟩) hS (fun q _ h => hFc q h) hFc (fun u_111 t9 H1 locs ht9 hvm9 hw9 hB9 hz9 hk9 hS => ?_)
              have eu_111 : u_111 = fX12_many x_8 x_18 r_21 0 v_key v_wrong v_mF v_mkF v_mrF := hw9
              obtain ⟨hP, hD⟩ := back_std (w1 := (wX12_many cI cB a_mo a_mem a_mks a_mr a_cnt a_wd a_one a_two a_mmade a_mrest a_old v_thrown v_mask v_key v_wait v_problem v_code v_length v_cond v_masks v_addr v_mwanted u_111.1 v_after v_calls v_oneB v_twoB u_111.2.1 v_mkF u_111.2.2)) (w2 := (wX12_stored cI cB a_mo a_mem a_mks a_mr a_cnt a_wd a_one a_two a_mmade a_mrest a_old v_thrown v_mask v_key v_wait v_problem v_code v_length v_cond v_masks v_addr v_mwanted u_111.1 v_after v_calls v_oneB v_twoB u_111.2.1 v_mkF u_111.2.2 v_wdF)) (wr := [(a_wd, .inl (cI, 6, .inl v_wdF))]) hP hD [0, 1, 2, 3] [4] [1, 2, 3, 4, 0] rfl rfl (by decide) (by decide) hk9 hFc hB9 ht9 (by decide) rfl
              clear hB9 hk9 hz9 hvm9 ht9 hFc hPc hDc
              generalize H1 = H at hP hS ⊢
              refine lv_goto (tgt := 249) hx hb dX12_stored_114 (by decide) ?_
              have hf9 : (v_mask, v_key, v_wait, v_problem, v_code, v_length, v_cond, v_masks, v_addr, u_111.1, v_after, u_111.2.1, u_111.2.2) = fX12_stored x0 v_mask v_key v_wait v_problem v_code v_length v_cond v_masks v_addr v_wrong v_after v_mF v_mkF v_mrF v_wdF := by subst ex_18; subst ex_8; simp only [fX12_stored, ← er_21, ← eu_111]; (try simp only [if_pos c_30, if_neg c_58, if_neg c_65, if_neg c_84, if_pos c_91])
              exact W.vret hx hb hr (fun t9 ht9 hW9 => ⟨⟨(v_mask, v_key, v_wait, v_problem, v_code, v_length, v_cond, v_masks, v_addr, u_111.1, v_after, u_111.2.1, u_111.2.2), rfl, hf9, ⟨by rw [ht9]; exact hP, va_K.moved hW9.alike hK, hD⟩⟩, hS.F ht9⟩) hS.2.2 dX12_stored_249
            · skip
              exact absurd c_103 c_84
      · skip
        refine lv_aload_n hx hb dX12_stored_68 rfl (lv_at hl 3 rfl) ?_
        refine lv_iload_n hx hb dX12_stored_69 rfl (lv_at hl 4 rfl) ?_
        refine lv_iload_n hx hb dX12_stored_70 rfl (lv_at hl 2 rfl) ?_
        refine lv_iload_n hx hb dX12_stored_71 rfl (lv_at hl 1 rfl) ?_
        refine lv_iload hx hb dX12_stored_72 (lv_at hl 0 rfl) ?_
        have hPc : va_P D vwCl (wX12_loop cI cB a_mo a_mem a_mks a_mr a_cnt a_wd a_one a_two a_mmade a_mrest a_old v_thrown v_mask v_key v_wait v_problem v_code v_length v_cond v_masks v_addr v_mwanted v_wrong v_after v_calls v_oneB v_twoB v_mrF) H := hP.sub [0, 3] rfl
        have hDc : va_D A (wX12_loop cI cB a_mo a_mem a_mks a_mr a_cnt a_wd a_one a_two a_mmade a_mrest a_old v_thrown v_mask v_key v_wait v_problem v_code v_length v_cond v_masks v_addr v_mwanted v_wrong v_after v_calls v_oneB v_twoB v_mrF) := hD.sub [0, 3] (by decide) rfl
        have hFc := va_free (wc := (wX12_loop cI cB a_mo a_mem a_mks a_mr a_cnt a_wd a_one a_two a_mmade a_mrest a_old v_thrown v_mask v_key v_wait v_problem v_code v_length v_cond v_masks v_addr v_mwanted v_wrong v_after v_calls v_oneB v_twoB v_mrF)) hD hS hA [0, 3] rfl
        refine va_callv (va_runV (As := [.int x0, .int x_8, .int x_18, .int r_21]) (rest := []) ⟨hx, hb, hml, hown, hts⟩ (kX12_loop l D cI cB a_mo a_mem a_mks a_mr a_cnt a_wd a_one a_two a_mmade a_mrest a_old H.size v_thrown v_mask v_key v_wait v_problem v_code v_length v_cond v_masks v_addr v_mwanted v_wrong v_after v_calls v_oneB v_twoB v_mrF x0 x_8 x_18 r_21 (by first | with_reducible assumption | decide | (unfold vp_in; decide)) (by first | with_reducible assumption | decide | (unfold vp_in; decide))) (cwV 4 hts (gd_V wd_962 wd_963 wd_964 wd_807 wd_956) rfl rfl rfl hdX12_loop ⟨Nat.le_of_ble_eq_true rfl, Nat.le_of_ble_eq_true rfl⟩) (preV_std (ci := 12) (q0 := 0) hPc hK hDc hNW rfl rfl) rfl rfl hl.1 rfl (lv_room (Nat.le_of_ble_eq_true rfl)) dX12_stored_74 ⟨Nat.zero_le _, Nat.zero_le _⟩) hS (fun q _ h => hFc q h) hFc (fun u_74 t9 H1 locs ht9 hvm9 hw9 hB9 hz9 hk9 hS => ?_)
        have eu_74 : u_74 = fX12_loop x0 x_8 x_18 r_21 v_addr v_mrF := hw9
        obtain ⟨hP, hD⟩ := back_std (w1 := (wX12_loop cI cB a_mo a_mem a_mks a_mr a_cnt a_wd a_one a_two a_mmade a_mrest a_old v_thrown v_mask v_key v_wait v_problem v_code v_length v_cond v_masks u_74.1 v_mwanted v_wrong v_after v_calls v_oneB v_twoB u_74.2)) (w2 := (wX12_stored cI cB a_mo a_mem a_mks a_mr a_cnt a_wd a_one a_two a_mmade a_mrest a_old v_thrown v_mask v_key v_wait v_problem v_code v_length v_cond v_masks u_74.1 v_mwanted v_wrong v_after v_calls v_oneB v_twoB v_mF v_mkF u_74.2 v_wdF)) (wr := [(a_mem, .inl (cI, 8192, .inl v_mF)), (a_mks, .inl (cI, 4, .inl v_mkF)), (a_wd, .inl (cI, 6, .inl v_wdF))]) hP hD [0, 3] [1, 2, 4] [3, 0, 1, 4, 2] rfl rfl (by decide) (by decide) hk9 hFc hB9 ht9 (by decide) rfl
        clear hB9 hk9 hz9 hvm9 ht9 hFc hPc hDc
        generalize H1 = H at hP hS ⊢
        refine lv_goto (tgt := 249) hx hb dX12_stored_77 (by decide) ?_
        have hf9 : (v_mask, v_key, v_wait, v_problem, v_code, v_length, v_cond, v_masks, u_74.1, v_wrong, v_after, v_mF, u_74.2) = fX12_stored x0 v_mask v_key v_wait v_problem v_code v_length v_cond v_masks v_addr v_wrong v_after v_mF v_mkF v_mrF v_wdF := by subst ex_18; subst ex_8; simp only [fX12_stored, ← er_21, ← eu_74]; (try simp only [if_pos c_30, if_neg c_58, if_pos c_65])
        exact W.vret hx hb hr (fun t9 ht9 hW9 => ⟨⟨(v_mask, v_key, v_wait, v_problem, v_code, v_length, v_cond, v_masks, u_74.1, v_wrong, v_after, v_mF, u_74.2), rfl, hf9, ⟨by rw [ht9]; exact hP, va_K.moved hW9.alike hK, hD⟩⟩, hS.F ht9⟩) hS.2.2 dX12_stored_249
  · skip
    refine lv_iload_n hx hb dX12_stored_33 rfl (lv_at hl 4 rfl) ?_
    refine lv_sipush (v := 144) hx hb dX12_stored_34 (by decide) ?_
    refine lv_icmp_ge (tgt := 54) hx hb dX12_stored_37 (by decide) (fun c_37 => ?_) (fun c_37 => ?_)
    · skip
      refine lv_iload_n hx hb dX12_stored_54 rfl (lv_at hl 4 rfl) ?_
      refine lv_sipush (v := 134) hx hb dX12_stored_55 (by decide) ?_
      refine lv_icmp_eq (tgt := 68) hx hb dX12_stored_58 (by decide) (fun c_58 => ?_) (fun c_58 => ?_)
      · skip
        refine lv_aload_n hx hb dX12_stored_68 rfl (lv_at hl 3 rfl) ?_
        refine lv_iload_n hx hb dX12_stored_69 rfl (lv_at hl 4 rfl) ?_
        refine lv_iload_n hx hb dX12_stored_70 rfl (lv_at hl 2 rfl) ?_
        refine lv_iload_n hx hb dX12_stored_71 rfl (lv_at hl 1 rfl) ?_
        refine lv_iload hx hb dX12_stored_72 (lv_at hl 0 rfl) ?_
        have hPc : va_P D vwCl (wX12_loop cI cB a_mo a_mem a_mks a_mr a_cnt a_wd a_one a_two a_mmade a_mrest a_old v_thrown v_mask v_key v_wait v_problem v_code v_length v_cond v_masks v_addr v_mwanted v_wrong v_after v_calls v_oneB v_twoB v_mrF) H := hP.sub [0, 3] rfl
        have hDc : va_D A (wX12_loop cI cB a_mo a_mem a_mks a_mr a_cnt a_wd a_one a_two a_mmade a_mrest a_old v_thrown v_mask v_key v_wait v_problem v_code v_length v_cond v_masks v_addr v_mwanted v_wrong v_after v_calls v_oneB v_twoB v_mrF) := hD.sub [0, 3] (by decide) rfl
        have hFc := va_free (wc := (wX12_loop cI cB a_mo a_mem a_mks a_mr a_cnt a_wd a_one a_two a_mmade a_mrest a_old v_thrown v_mask v_key v_wait v_problem v_code v_length v_cond v_masks v_addr v_mwanted v_wrong v_after v_calls v_oneB v_twoB v_mrF)) hD hS hA [0, 3] rfl
        refine va_callv (va_runV (As := [.int x0, .int x_8, .int x_18, .int r_21]) (rest := []) ⟨hx, hb, hml, hown, hts⟩ (kX12_loop l D cI cB a_mo a_mem a_mks a_mr a_cnt a_wd a_one a_two a_mmade a_mrest a_old H.size v_thrown v_mask v_key v_wait v_problem v_code v_length v_cond v_masks v_addr v_mwanted v_wrong v_after v_calls v_oneB v_twoB v_mrF x0 x_8 x_18 r_21 (by first | with_reducible assumption | decide | (unfold vp_in; decide)) (by first | with_reducible assumption | decide | (unfold vp_in; decide))) (cwV 4 hts (gd_V wd_962 wd_963 wd_964 wd_807 wd_956) rfl rfl rfl hdX12_loop ⟨Nat.le_of_ble_eq_true rfl, Nat.le_of_ble_eq_true rfl⟩) (preV_std (ci := 12) (q0 := 0) hPc hK hDc hNW rfl rfl) rfl rfl hl.1 rfl (lv_room (Nat.le_of_ble_eq_true rfl)) dX12_stored_74 ⟨Nat.zero_le _, Nat.zero_le _⟩) hS (fun q _ h => hFc q h) hFc (fun u_74 t9 H1 locs ht9 hvm9 hw9 hB9 hz9 hk9 hS => ?_)
        have eu_74 : u_74 = fX12_loop x0 x_8 x_18 r_21 v_addr v_mrF := hw9
        obtain ⟨hP, hD⟩ := back_std (w1 := (wX12_loop cI cB a_mo a_mem a_mks a_mr a_cnt a_wd a_one a_two a_mmade a_mrest a_old v_thrown v_mask v_key v_wait v_problem v_code v_length v_cond v_masks u_74.1 v_mwanted v_wrong v_after v_calls v_oneB v_twoB u_74.2)) (w2 := (wX12_stored cI cB a_mo a_mem a_mks a_mr a_cnt a_wd a_one a_two a_mmade a_mrest a_old v_thrown v_mask v_key v_wait v_problem v_code v_length v_cond v_masks u_74.1 v_mwanted v_wrong v_after v_calls v_oneB v_twoB v_mF v_mkF u_74.2 v_wdF)) (wr := [(a_mem, .inl (cI, 8192, .inl v_mF)), (a_mks, .inl (cI, 4, .inl v_mkF)), (a_wd, .inl (cI, 6, .inl v_wdF))]) hP hD [0, 3] [1, 2, 4] [3, 0, 1, 4, 2] rfl rfl (by decide) (by decide) hk9 hFc hB9 ht9 (by decide) rfl
        clear hB9 hk9 hz9 hvm9 ht9 hFc hPc hDc
        generalize H1 = H at hP hS ⊢
        refine lv_goto (tgt := 249) hx hb dX12_stored_77 (by decide) ?_
        have hf9 : (v_mask, v_key, v_wait, v_problem, v_code, v_length, v_cond, v_masks, u_74.1, v_wrong, v_after, v_mF, u_74.2) = fX12_stored x0 v_mask v_key v_wait v_problem v_code v_length v_cond v_masks v_addr v_wrong v_after v_mF v_mkF v_mrF v_wdF := by subst ex_18; subst ex_8; simp only [fX12_stored, ← er_21, ← eu_74]; (try simp only [if_neg c_30, if_pos c_37, if_pos c_58])
        exact W.vret hx hb hr (fun t9 ht9 hW9 => ⟨⟨(v_mask, v_key, v_wait, v_problem, v_code, v_length, v_cond, v_masks, u_74.1, v_wrong, v_after, v_mF, u_74.2), rfl, hf9, ⟨by rw [ht9]; exact hP, va_K.moved hW9.alike hK, hD⟩⟩, hS.F ht9⟩) hS.2.2 dX12_stored_249
      · skip
        refine lv_iload_n hx hb dX12_stored_61 rfl (lv_at hl 4 rfl) ?_
        refine lv_sipush (v := 135) hx hb dX12_stored_62 (by decide) ?_
        refine lv_icmp_ne (tgt := 80) hx hb dX12_stored_65 (by decide) (fun c_65 => ?_) (fun c_65 => ?_)
        · skip
          refine lv_iload_n hx hb dX12_stored_80 rfl (lv_at hl 4 rfl) ?_
          refine lv_sipush (v := 144) hx hb dX12_stored_81 (by decide) ?_
          refine lv_icmp_eq (tgt := 94) hx hb dX12_stored_84 (by decide) (fun c_84 => ?_) (fun c_84 => ?_)
          · skip
            refine lv_aload_n hx hb dX12_stored_94 rfl (lv_at hl 3 rfl) ?_
            refine lv_iload_n hx hb dX12_stored_95 rfl (lv_at hl 2 rfl) ?_
            refine lv_iload_n hx hb dX12_stored_96 rfl (lv_at hl 1 rfl) ?_
            refine lv_iload hx hb dX12_stored_97 (lv_at hl 0 rfl) ?_
            refine lv_iload_n hx hb dX12_stored_99 rfl (lv_at hl 4 rfl) ?_
            refine lv_sipush (v := 144) hx hb dX12_stored_100 (by decide) ?_
            refine lv_icmp_ne (tgt := 110) hx hb dX12_stored_103 (by decide) (fun c_103 => ?_) (fun c_103 => ?_)
            · skip
              exact absurd c_84 c_103
            · skip
              refine lv_iconst (v := 1) hx hb dX12_stored_106 (by decide) ?_
              refine lv_goto (tgt := 111) hx hb dX12_stored_107 (by decide) ?_
              have hPc : va_P D vwCl (wX12_many cI cB a_mo a_mem a_mks a_mr a_cnt a_wd a_one a_two a_mmade a_mrest a_old v_thrown v_mask v_key v_wait v_problem v_code v_length v_cond v_masks v_addr v_mwanted v_wrong v_after v_calls v_oneB v_twoB v_mF v_mkF v_mrF) H := hP.sub [0, 1, 2, 3] rfl
              have hDc : va_D A (wX12_many cI cB a_mo a_mem a_mks a_mr a_cnt a_wd a_one a_two a_mmade a_mrest a_old v_thrown v_mask v_key v_wait v_problem v_code v_length v_cond v_masks v_addr v_mwanted v_wrong v_after v_calls v_oneB v_twoB v_mF v_mkF v_mrF) := hD.sub [0, 1, 2, 3] (by decide) rfl
              have hFc := va_free (wc := (wX12_many cI cB a_mo a_mem a_mks a_mr a_cnt a_wd a_one a_two a_mmade a_mrest a_old v_thrown v_mask v_key v_wait v_problem v_code v_length v_cond v_masks v_addr v_mwanted v_wrong v_after v_calls v_oneB v_twoB v_mF v_mkF v_mrF)) hD hS hA [0, 1, 2, 3] rfl
              refine va_callv (va_runV (As := [.int x_8, .int x_18, .int r_21, .int 1]) (rest := []) ⟨hx, hb, hml, hown, hts⟩ (kX12_many l D cI cB a_mo a_mem a_mks a_mr a_cnt a_wd a_one a_two a_mmade a_mrest a_old H.size v_thrown v_mask v_key v_wait v_problem v_code v_length v_cond v_masks v_addr v_mwanted v_wrong v_after v_calls v_oneB v_twoB v_mF v_mkF v_mrF x_8 x_18 r_21 1 (by first | with_reducible assumption | decide | (unfold vp_in; decide)) (by first | with_reducible assumption | decide | (unfold vp_in; decide))) (cwV 4 hts (gd_V wd_965 wd_966 wd_967 wd_807 wd_957) rfl rfl rfl hdX12_many ⟨Nat.le_of_ble_eq_true rfl, Nat.le_of_ble_eq_true rfl⟩) (preV_std (ci := 12) (q0 := 0) hPc hK hDc hNW rfl rfl) rfl rfl hl.1 rfl (lv_room (Nat.le_of_ble_eq_true rfl)) dX12_stored_111 ⟨Nat.zero_le _, Nat.zero_le _⟩) hS (fun q _ h => hFc q h) hFc (fun u_111 t9 H1 locs ht9 hvm9 hw9 hB9 hz9 hk9 hS => ?_)
              have eu_111 : u_111 = fX12_many x_8 x_18 r_21 1 v_key v_wrong v_mF v_mkF v_mrF := hw9
              obtain ⟨hP, hD⟩ := back_std (w1 := (wX12_many cI cB a_mo a_mem a_mks a_mr a_cnt a_wd a_one a_two a_mmade a_mrest a_old v_thrown v_mask v_key v_wait v_problem v_code v_length v_cond v_masks v_addr v_mwanted u_111.1 v_after v_calls v_oneB v_twoB u_111.2.1 v_mkF u_111.2.2)) (w2 := (wX12_stored cI cB a_mo a_mem a_mks a_mr a_cnt a_wd a_one a_two a_mmade a_mrest a_old v_thrown v_mask v_key v_wait v_problem v_code v_length v_cond v_masks v_addr v_mwanted u_111.1 v_after v_calls v_oneB v_twoB u_111.2.1 v_mkF u_111.2.2 v_wdF)) (wr := [(a_wd, .inl (cI, 6, .inl v_wdF))]) hP hD [0, 1, 2, 3] [4] [1, 2, 3, 4, 0] rfl rfl (by decide) (by decide) hk9 hFc hB9 ht9 (by decide) rfl
              clear hB9 hk9 hz9 hvm9 ht9 hFc hPc hDc
              generalize H1 = H at hP hS ⊢
              refine lv_goto (tgt := 249) hx hb dX12_stored_114 (by decide) ?_
              have hf9 : (v_mask, v_key, v_wait, v_problem, v_code, v_length, v_cond, v_masks, v_addr, u_111.1, v_after, u_111.2.1, u_111.2.2) = fX12_stored x0 v_mask v_key v_wait v_problem v_code v_length v_cond v_masks v_addr v_wrong v_after v_mF v_mkF v_mrF v_wdF := by subst ex_18; subst ex_8; simp only [fX12_stored, ← er_21, ← eu_111]; (try simp only [if_neg c_30, if_pos c_37, if_neg c_58, if_neg c_65, if_pos c_84])
              exact W.vret hx hb hr (fun t9 ht9 hW9 => ⟨⟨(v_mask, v_key, v_wait, v_problem, v_code, v_length, v_cond, v_masks, v_addr, u_111.1, v_after, u_111.2.1, u_111.2.2), rfl, hf9, ⟨by rw [ht9]; exact hP, va_K.moved hW9.alike hK, hD⟩⟩, hS.F ht9⟩) hS.2.2 dX12_stored_249
          · skip
            refine lv_iload_n hx hb dX12_stored_87 rfl (lv_at hl 4 rfl) ?_
            refine lv_sipush (v := 152) hx hb dX12_stored_88 (by decide) ?_
            refine lv_icmp_ne (tgt := 117) hx hb dX12_stored_91 (by decide) (fun c_91 => ?_) (fun c_91 => ?_)
            · skip
              refine lv_iload_n hx hb dX12_stored_117 rfl (lv_at hl 4 rfl) ?_
              refine lv_sipush (v := 145) hx hb dX12_stored_118 (by decide) ?_
              refine lv_icmp_lt (tgt := 147) hx hb dX12_stored_121 (by decide) (fun c_121 => ?_) (fun c_121 => ?_)
              · skip
                refine lv_iload_n hx hb dX12_stored_147 rfl (lv_at hl 4 rfl) ?_
                refine lv_sipush (v := 128) hx hb dX12_stored_148 (by decide) ?_
                refine lv_icmp_ne (tgt := 194) hx hb dX12_stored_151 (by decide) (fun c_151 => ?_) (fun c_151 => ?_)
                · skip
                  refine lv_iload_n hx hb dX12_stored_194 rfl (lv_at hl 4 rfl) ?_
                  refine lv_sipush (v := 130) hx hb dX12_stored_195 (by decide) ?_
                  refine lv_icmp_ne (tgt := 244) hx hb dX12_stored_198 (by decide) (fun c_198 => ?_) (fun c_198 => ?_)
                  · skip
                    refine lv_aload_n hx hb dX12_stored_244 rfl (lv_at hl 3 rfl) ?_
                    refine lv_iconst (v := 1) hx hb dX12_stored_245 (by decide) ?_
                    have hPc : va_P D vwCl (wX12_meet cI cB a_mo a_mem a_mks a_mr a_cnt a_wd a_one a_two a_mmade a_mrest a_old v_thrown v_mask v_key v_wait v_problem v_code v_length v_cond v_masks v_addr v_mwanted v_wrong v_after v_calls v_oneB v_twoB) H := hP.sub [0] rfl
                    have hDc : va_D A (wX12_meet cI cB a_mo a_mem a_mks a_mr a_cnt a_wd a_one a_two a_mmade a_mrest a_old v_thrown v_mask v_key v_wait v_problem v_code v_length v_cond v_masks v_addr v_mwanted v_wrong v_after v_calls v_oneB v_twoB) := hD.sub [0] (by decide) rfl
                    have hFc := va_free (wc := (wX12_meet cI cB a_mo a_mem a_mks a_mr a_cnt a_wd a_one a_two a_mmade a_mrest a_old v_thrown v_mask v_key v_wait v_problem v_code v_length v_cond v_masks v_addr v_mwanted v_wrong v_after v_calls v_oneB v_twoB)) hD hS hA [0] rfl
                    refine va_callv (va_runV (As := [.int 1]) (rest := []) ⟨hx, hb, hml, hown, hts⟩ (kX12_meet l D cI cB a_mo a_mem a_mks a_mr a_cnt a_wd a_one a_two a_mmade a_mrest a_old H.size v_thrown v_mask v_key v_wait v_problem v_code v_length v_cond v_masks v_addr v_mwanted v_wrong v_after v_calls v_oneB v_twoB 1) (cwV 1 hts (gd_V wd_838 wd_839 wd_840 wd_807 wd_835) rfl rfl rfl hdX12_meet ⟨Nat.le_of_ble_eq_true rfl, Nat.le_of_ble_eq_true rfl⟩) (preV_std (ci := 12) (q0 := 0) hPc hK hDc hNW rfl rfl) rfl rfl hl.1 rfl (lv_room (Nat.le_of_ble_eq_true rfl)) dX12_stored_246 ⟨Nat.zero_le _, Nat.zero_le _⟩) hS (fun q _ h => hFc q h) hFc (fun u_246 t9 H1 locs ht9 hvm9 hw9 hB9 hz9 hk9 hS => ?_)
                    have eu_246 : u_246 = fX12_meet 1 v_wrong := hw9
                    obtain ⟨hP, hD⟩ := back_std (w1 := (wX12_meet cI cB a_mo a_mem a_mks a_mr a_cnt a_wd a_one a_two a_mmade a_mrest a_old v_thrown v_mask v_key v_wait v_problem v_code v_length v_cond v_masks v_addr v_mwanted u_246 v_after v_calls v_oneB v_twoB)) (w2 := (wX12_stored cI cB a_mo a_mem a_mks a_mr a_cnt a_wd a_one a_two a_mmade a_mrest a_old v_thrown v_mask v_key v_wait v_problem v_code v_length v_cond v_masks v_addr v_mwanted u_246 v_after v_calls v_oneB v_twoB v_mF v_mkF v_mrF v_wdF)) (wr := [(a_mem, .inl (cI, 8192, .inl v_mF)), (a_mks, .inl (cI, 4, .inl v_mkF)), (a_mr, .inl (cI, 16, .inl v_mrF)), (a_wd, .inl (cI, 6, .inl v_wdF))]) hP hD [0] [1, 2, 3, 4] [4, 0, 1, 2, 3] rfl rfl (by decide) (by decide) hk9 hFc hB9 ht9 (by decide) rfl
                    clear hB9 hk9 hz9 hvm9 ht9 hFc hPc hDc
                    generalize H1 = H at hP hS ⊢
                    have hf9 : (v_mask, v_key, v_wait, v_problem, v_code, v_length, v_cond, v_masks, v_addr, u_246, v_after, v_mF, v_mrF) = fX12_stored x0 v_mask v_key v_wait v_problem v_code v_length v_cond v_masks v_addr v_wrong v_after v_mF v_mkF v_mrF v_wdF := by subst ex_18; subst ex_8; simp only [fX12_stored, ← er_21, ← eu_246]; (try simp only [if_neg c_30, if_pos c_37, if_neg c_58, if_neg c_65, if_neg c_84, if_neg c_91, if_pos c_121, if_neg c_151, if_neg c_198])
                    exact W.vret hx hb hr (fun t9 ht9 hW9 => ⟨⟨(v_mask, v_key, v_wait, v_problem, v_code, v_length, v_cond, v_masks, v_addr, u_246, v_after, v_mF, v_mrF), rfl, hf9, ⟨by rw [ht9]; exact hP, va_K.moved hW9.alike hK, hD⟩⟩, hS.F ht9⟩) hS.2.2 dX12_stored_249
                  · skip
                    refine lv_aload_n hx hb dX12_stored_201 rfl (lv_at hl 3 rfl) ?_
                    have hPc : va_P D vwCl (wX12_supervisor cI cB a_mo a_mem a_mks a_mr a_cnt a_wd a_one a_two a_mmade a_mrest a_old v_thrown v_mask v_key v_wait v_problem v_code v_length v_cond v_masks v_addr v_mwanted v_wrong v_after v_calls v_oneB v_twoB) H := hP.sub [0] rfl
                    have hDc : va_D A (wX12_supervisor cI cB a_mo a_mem a_mks a_mr a_cnt a_wd a_one a_two a_mmade a_mrest a_old v_thrown v_mask v_key v_wait v_problem v_code v_length v_cond v_masks v_addr v_mwanted v_wrong v_after v_calls v_oneB v_twoB) := hD.sub [0] (by decide) rfl
                    have hFc := va_free (wc := (wX12_supervisor cI cB a_mo a_mem a_mks a_mr a_cnt a_wd a_one a_two a_mmade a_mrest a_old v_thrown v_mask v_key v_wait v_problem v_code v_length v_cond v_masks v_addr v_mwanted v_wrong v_after v_calls v_oneB v_twoB)) hD hS hA [0] rfl
                    refine va_callv (va_runV (As := []) (rest := []) ⟨hx, hb, hml, hown, hts⟩ (kX12_supervisor l D cI cB a_mo a_mem a_mks a_mr a_cnt a_wd a_one a_two a_mmade a_mrest a_old H.size v_thrown v_mask v_key v_wait v_problem v_code v_length v_cond v_masks v_addr v_mwanted v_wrong v_after v_calls v_oneB v_twoB ) (cwV 0 hts (gd_V wd_913 wd_914 wd_915 wd_807 wd_842) rfl rfl rfl hdX12_supervisor ⟨Nat.le_of_ble_eq_true rfl, Nat.le_of_ble_eq_true rfl⟩) (preV_std (ci := 12) (q0 := 0) hPc hK hDc hNW rfl rfl) rfl rfl hl.1 rfl (lv_room (Nat.le_of_ble_eq_true rfl)) dX12_stored_202 ⟨Nat.zero_le _, Nat.zero_le _⟩) hS (fun q _ h => hFc q h) hFc (fun u_202 t9 H1 locs ht9 hvm9 hw9 hB9 hz9 hk9 hS => ?_)
                    have eu_202 : u_202 = fX12_supervisor v_problem v_wrong := hw9
                    obtain ⟨hP, hD⟩ := back_std (w1 := (wX12_supervisor cI cB a_mo a_mem a_mks a_mr a_cnt a_wd a_one a_two a_mmade a_mrest a_old v_thrown v_mask v_key v_wait v_problem v_code v_length v_cond v_masks v_addr v_mwanted u_202 v_after v_calls v_oneB v_twoB)) (w2 := (wX12_stored cI cB a_mo a_mem a_mks a_mr a_cnt a_wd a_one a_two a_mmade a_mrest a_old v_thrown v_mask v_key v_wait v_problem v_code v_length v_cond v_masks v_addr v_mwanted u_202 v_after v_calls v_oneB v_twoB v_mF v_mkF v_mrF v_wdF)) (wr := [(a_mem, .inl (cI, 8192, .inl v_mF)), (a_mks, .inl (cI, 4, .inl v_mkF)), (a_mr, .inl (cI, 16, .inl v_mrF)), (a_wd, .inl (cI, 6, .inl v_wdF))]) hP hD [0] [1, 2, 3, 4] [4, 0, 1, 2, 3] rfl rfl (by decide) (by decide) hk9 hFc hB9 ht9 (by decide) rfl
                    clear hB9 hk9 hz9 hvm9 ht9 hFc hPc hDc
                    generalize H1 = H at hP hS ⊢
                    refine lv_aload_n hx hb dX12_stored_205 rfl (lv_at hl 3 rfl) ?_
                    refine lv_iload hx hb dX12_stored_206 (lv_at hl 0 rfl) ?_
                    refine lv_bipush (v := 8) hx hb dX12_stored_208 (by decide) ?_
                    refine lv_iconst (v := 0) hx hb dX12_stored_210 (by decide) ?_
                    have hPc : va_P D vwCl (wX12_look cI cB a_mo a_mem a_mks a_mr a_cnt a_wd a_one a_two a_mmade a_mrest a_old v_thrown v_mask v_key v_wait v_problem v_code v_length v_cond v_masks v_addr v_mwanted u_202 v_after v_calls v_oneB v_twoB v_mkF) H := hP.sub [0, 2] rfl
                    have hDc : va_D A (wX12_look cI cB a_mo a_mem a_mks a_mr a_cnt a_wd a_one a_two a_mmade a_mrest a_old v_thrown v_mask v_key v_wait v_problem v_code v_length v_cond v_masks v_addr v_mwanted u_202 v_after v_calls v_oneB v_twoB v_mkF) := hD.sub [0, 2] (by decide) rfl
                    have hFc := va_free (wc := (wX12_look cI cB a_mo a_mem a_mks a_mr a_cnt a_wd a_one a_two a_mmade a_mrest a_old v_thrown v_mask v_key v_wait v_problem v_code v_length v_cond v_masks v_addr v_mwanted u_202 v_after v_calls v_oneB v_twoB v_mkF)) hD hS hA [0, 2] rfl
                    refine va_callv (va_runV (As := [.int r_21, .int 8, .int 0]) (rest := []) ⟨hx, hb, hml, hown, hts⟩ (kX12_look l D cI cB a_mo a_mem a_mks a_mr a_cnt a_wd a_one a_two a_mmade a_mrest a_old H.size v_thrown v_mask v_key v_wait v_problem v_code v_length v_cond v_masks v_addr v_mwanted u_202 v_after v_calls v_oneB v_twoB v_mkF r_21 8 0) (cwV 3 hts (gd_V wd_857 wd_858 wd_859 wd_807 wd_837) rfl rfl rfl hdX12_look ⟨Nat.le_of_ble_eq_true rfl, Nat.le_of_ble_eq_true rfl⟩) (preV_std (ci := 12) (q0 := 0) hPc hK hDc hNW rfl rfl) rfl rfl hl.1 rfl (lv_room (Nat.le_of_ble_eq_true rfl)) dX12_stored_211 ⟨Nat.zero_le _, Nat.zero_le _⟩) hS (fun q _ h => hFc q h) hFc (fun u_211 t9 H1 locs ht9 hvm9 hw9 hB9 hz9 hk9 hS => ?_)
                    have eu_211 : u_211 = fX12_look r_21 8 0 v_key u_202 v_mkF := hw9
                    obtain ⟨hP, hD⟩ := back_std (w1 := (wX12_look cI cB a_mo a_mem a_mks a_mr a_cnt a_wd a_one a_two a_mmade a_mrest a_old v_thrown v_mask v_key v_wait v_problem v_code v_length v_cond v_masks v_addr v_mwanted u_211 v_after v_calls v_oneB v_twoB v_mkF)) (w2 := (wX12_stored cI cB a_mo a_mem a_mks a_mr a_cnt a_wd a_one a_two a_mmade a_mrest a_old v_thrown v_mask v_key v_wait v_problem v_code v_length v_cond v_masks v_addr v_mwanted u_211 v_after v_calls v_oneB v_twoB v_mF v_mkF v_mrF v_wdF)) (wr := [(a_mem, .inl (cI, 8192, .inl v_mF)), (a_mr, .inl (cI, 16, .inl v_mrF)), (a_wd, .inl (cI, 6, .inl v_wdF))]) hP hD [0, 2] [1, 3, 4] [3, 0, 4, 1, 2] rfl rfl (by decide) (by decide) hk9 hFc hB9 ht9 (by decide) rfl
                    clear hB9 hk9 hz9 hvm9 ht9 hFc hPc hDc
                    generalize H1 = H at hP hS ⊢
                    refine lv_aload_n hx hb dX12_stored_214 rfl (lv_at hl 3 rfl) ?_
                    refine lv_iload hx hb dX12_stored_215 (lv_at hl 0 rfl) ?_
                    refine lv_bipush (v := 8) hx hb dX12_stored_217 (by decide) ?_
                    have hPc : va_P D vwCl (wX12_even cI cB a_mo a_mem a_mks a_mr a_cnt a_wd a_one a_two a_mmade a_mrest a_old v_thrown v_mask v_key v_wait v_problem v_code v_length v_cond v_masks v_addr v_mwanted u_211 v_after v_calls v_oneB v_twoB) H := hP.sub [0] rfl
                    have hDc : va_D A (wX12_even cI cB a_mo a_mem a_mks a_mr a_cnt a_wd a_one a_two a_mmade a_mrest a_old v_thrown v_mask v_key v_wait v_problem v_code v_length v_cond v_masks v_addr v_mwanted u_211 v_after v_calls v_oneB v_twoB) := hD.sub [0] (by decide) rfl
                    have hFc := va_free (wc := (wX12_even cI cB a_mo a_mem a_mks a_mr a_cnt a_wd a_one a_two a_mmade a_mrest a_old v_thrown v_mask v_key v_wait v_problem v_code v_length v_cond v_masks v_addr v_mwanted u_211 v_after v_calls v_oneB v_twoB)) hD hS hA [0] rfl
                    refine va_callv (va_runV (As := [.int r_21, .int 8]) (rest := []) ⟨hx, hb, hml, hown, hts⟩ (kX12_even l D cI cB a_mo a_mem a_mks a_mr a_cnt a_wd a_one a_two a_mmade a_mrest a_old H.size v_thrown v_mask v_key v_wait v_problem v_code v_length v_cond v_masks v_addr v_mwanted u_211 v_after v_calls v_oneB v_twoB r_21 8 (by first | with_reducible assumption | decide | (unfold vp_in; decide))) (cwV 2 hts (gd_V wd_860 wd_861 wd_862 wd_807 wd_841) rfl rfl rfl hdX12_even ⟨Nat.le_of_ble_eq_true rfl, Nat.le_of_ble_eq_true rfl⟩) (preV_std (ci := 12) (q0 := 0) hPc hK hDc hNW rfl rfl) rfl rfl hl.1 rfl (lv_room (Nat.le_of_ble_eq_true rfl)) dX12_stored_219 ⟨Nat.zero_le _, Nat.zero_le _⟩) hS (fun q _ h => hFc q h) hFc (fun u_219 t9 H1 locs ht9 hvm9 hw9 hB9 hz9 hk9 hS => ?_)
                    have eu_219 : u_219 = fX12_even r_21 8 u_211 := hw9
                    obtain ⟨hP, hD⟩ := back_std (w1 := (wX12_even cI cB a_mo a_mem a_mks a_mr a_cnt a_wd a_one a_two a_mmade a_mrest a_old v_thrown v_mask v_key v_wait v_problem v_code v_length v_cond v_masks v_addr v_mwanted u_219 v_after v_calls v_oneB v_twoB)) (w2 := (wX12_stored cI cB a_mo a_mem a_mks a_mr a_cnt a_wd a_one a_two a_mmade a_mrest a_old v_thrown v_mask v_key v_wait v_problem v_code v_length v_cond v_masks v_addr v_mwanted u_219 v_after v_calls v_oneB v_twoB v_mF v_mkF v_mrF v_wdF)) (wr := [(a_mem, .inl (cI, 8192, .inl v_mF)), (a_mks, .inl (cI, 4, .inl v_mkF)), (a_mr, .inl (cI, 16, .inl v_mrF)), (a_wd, .inl (cI, 6, .inl v_wdF))]) hP hD [0] [1, 2, 3, 4] [4, 0, 1, 2, 3] rfl rfl (by decide) (by decide) hk9 hFc hB9 ht9 (by decide) rfl
                    clear hB9 hk9 hz9 hvm9 ht9 hFc hPc hDc
                    generalize H1 = H at hP hS ⊢
                    refine lv_aload_n hx hb dX12_stored_222 rfl (lv_at hl 3 rfl) ?_
                    refine va_get (D := D) (ci := 12) (v := .int u_219) (C := RX12) (T := TX12) (N := 26) hx hb hts in_X12 hown hK hP 0 rfl rfl 16 (by decide) q_1 (fun _ h9 => h9) rfl dX12_stored_223 ?_
                    refine lv_if_ne (tgt := 249) hx hb dX12_stored_226 (by decide) (fun c_226 => ?_) (fun c_226 => ?_)
                    · skip
                      have hf9 : (v_mask, v_key, v_wait, v_problem, v_code, v_length, v_cond, v_masks, v_addr, u_219, v_after, v_mF, v_mrF) = fX12_stored x0 v_mask v_key v_wait v_problem v_code v_length v_cond v_masks v_addr v_wrong v_after v_mF v_mkF v_mrF v_wdF := by subst ex_18; subst ex_8; simp only [fX12_stored, ← er_21, ← eu_202, ← eu_211, ← eu_219]; (try simp only [if_neg c_30, if_pos c_37, if_neg c_58, if_neg c_65, if_neg c_84, if_neg c_91, if_pos c_121, if_neg c_151, if_pos c_198, if_neg c_226])
                      exact W.vret hx hb hr (fun t9 ht9 hW9 => ⟨⟨(v_mask, v_key, v_wait, v_problem, v_code, v_length, v_cond, v_masks, v_addr, u_219, v_after, v_mF, v_mrF), rfl, hf9, ⟨by rw [ht9]; exact hP, va_K.moved hW9.alike hK, hD⟩⟩, hS.F ht9⟩) hS.2.2 dX12_stored_249
                    · skip
                      refine lv_aload_n hx hb dX12_stored_229 rfl (lv_at hl 3 rfl) ?_
                      refine lv_aload_n hx hb dX12_stored_230 rfl (lv_at hl 3 rfl) ?_
                      refine lv_iload hx hb dX12_stored_231 (lv_at hl 0 rfl) ?_
                      refine lv_bipush (v := 8) hx hb dX12_stored_233 (by decide) ?_
                      have hPc : va_P D vwCl (wX12_fetch cI cB a_mo a_mem a_mks a_mr a_cnt a_wd a_one a_two a_mmade a_mrest a_old v_thrown v_mask v_key v_wait v_problem v_code v_length v_cond v_masks v_addr v_mwanted u_219 v_after v_calls v_oneB v_twoB v_mF) H := hP.sub [0, 1] rfl
                      have hDc : va_D A (wX12_fetch cI cB a_mo a_mem a_mks a_mr a_cnt a_wd a_one a_two a_mmade a_mrest a_old v_thrown v_mask v_key v_wait v_problem v_code v_length v_cond v_masks v_addr v_mwanted u_219 v_after v_calls v_oneB v_twoB v_mF) := hD.sub [0, 1] (by decide) rfl
                      have hFc := va_free (wc := (wX12_fetch cI cB a_mo a_mem a_mks a_mr a_cnt a_wd a_one a_two a_mmade a_mrest a_old v_thrown v_mask v_key v_wait v_problem v_code v_length v_cond v_masks v_addr v_mwanted u_219 v_after v_calls v_oneB v_twoB v_mF)) hD hS hA [0, 1] rfl
                      refine va_calll (va_runV (As := [.int r_21, .int 8]) (rest := [.ref a_mo]) ⟨hx, hb, hml, hown, hts⟩ (kX12_fetch l D cI cB a_mo a_mem a_mks a_mr a_cnt a_wd a_one a_two a_mmade a_mrest a_old H.size v_thrown v_mask v_key v_wait v_problem v_code v_length v_cond v_masks v_addr v_mwanted u_219 v_after v_calls v_oneB v_twoB v_mF r_21 8 (op_in ha (Or.inr (Or.inr (Or.inr rfl))) (by rw [eu_202]; exact sup_nn hw) eu_211 eu_219 (eq0_np c_226))) (cwV 2 hts (gd_V wd_830 wd_831 wd_832 wd_807 wd_819) rfl rfl rfl hdX12_fetch ⟨Nat.le_of_ble_eq_true rfl, Nat.le_of_ble_eq_true rfl⟩) (preV_std (ci := 12) (q0 := 0) hPc hK hDc hNW rfl rfl) rfl rfl hl.1 rfl (lv_room (Nat.le_of_ble_eq_true rfl)) dX12_stored_235 ⟨Nat.zero_le _, Nat.zero_le _⟩) hS (fun q _ h => hFc q h) hFc (fun r_235 u_235 t9 H1 locs ht9 hvm9 hw9 hB9 hz9 hk9 hS => ?_)
                      have er_235 : r_235 = fX12_fetch r_21 8 v_mF := hw9
                      obtain ⟨hP, hD⟩ := back_std (w1 := (wX12_fetch cI cB a_mo a_mem a_mks a_mr a_cnt a_wd a_one a_two a_mmade a_mrest a_old v_thrown v_mask v_key v_wait v_problem v_code v_length v_cond v_masks v_addr v_mwanted u_219 v_after v_calls v_oneB v_twoB v_mF)) (w2 := (wX12_stored cI cB a_mo a_mem a_mks a_mr a_cnt a_wd a_one a_two a_mmade a_mrest a_old v_thrown v_mask v_key v_wait v_problem v_code v_length v_cond v_masks v_addr v_mwanted u_219 v_after v_calls v_oneB v_twoB v_mF v_mkF v_mrF v_wdF)) (wr := [(a_mks, .inl (cI, 4, .inl v_mkF)), (a_mr, .inl (cI, 16, .inl v_mrF)), (a_wd, .inl (cI, 6, .inl v_wdF))]) hP hD [0, 1] [2, 3, 4] [3, 4, 0, 1, 2] rfl rfl (by decide) (by decide) hk9 hFc hB9 ht9 (by decide) rfl
                      clear hB9 hk9 hz9 hvm9 ht9 hFc hPc hDc
                      generalize H1 = H at hP hS ⊢
                      have hPc : va_P D vwCl (wX12_become cI cB a_mo a_mem a_mks a_mr a_cnt a_wd a_one a_two a_mmade a_mrest a_old v_thrown v_mask v_key v_wait v_problem v_code v_length v_cond v_masks v_addr v_mwanted u_219 v_after v_calls v_oneB v_twoB) H := hP.sub [0] rfl
                      have hDc : va_D A (wX12_become cI cB a_mo a_mem a_mks a_mr a_cnt a_wd a_one a_two a_mmade a_mrest a_old v_thrown v_mask v_key v_wait v_problem v_code v_length v_cond v_masks v_addr v_mwanted u_219 v_after v_calls v_oneB v_twoB) := hD.sub [0] (by decide) rfl
                      have hFc := va_free (wc := (wX12_become cI cB a_mo a_mem a_mks a_mr a_cnt a_wd a_one a_two a_mmade a_mrest a_old v_thrown v_mask v_key v_wait v_problem v_code v_length v_cond v_masks v_addr v_mwanted u_219 v_after v_calls v_oneB v_twoB)) hD hS hA [0] rfl
                      refine va_callv (va_runV (As := [.long r_235]) (rest := []) ⟨hx, hb, hml, hown, hts⟩ (kX12_become l D cI cB a_mo a_mem a_mks a_mr a_cnt a_wd a_one a_two a_mmade a_mrest a_old H.size v_thrown v_mask v_key v_wait v_problem v_code v_length v_cond v_masks v_addr v_mwanted u_219 v_after v_calls v_oneB v_twoB r_235) (cwV 1 hts (gd_V wd_816 wd_817 wd_818 wd_807 wd_808) rfl rfl rfl hdX12_become ⟨Nat.le_of_ble_eq_true rfl, Nat.le_of_ble_eq_true rfl⟩) (preV_std (ci := 12) (q0 := 0) hPc hK hDc hNW rfl rfl) rfl rfl hl.1 rfl (lv_room (Nat.le_of_ble_eq_true rfl)) dX12_stored_238 ⟨Nat.zero_le _, Nat.zero_le _⟩) hS (fun q _ h => hFc q h) hFc (fun u_238 t9 H1 locs ht9 hvm9 hw9 hB9 hz9 hk9 hS => ?_)
                      have eu_238 : u_238 = fX12_become r_235 v_mask v_key v_wait v_problem v_code v_length v_cond v_masks v_addr := hw9
                      obtain ⟨hP, hD⟩ := back_std (w1 := (wX12_become cI cB a_mo a_mem a_mks a_mr a_cnt a_wd a_one a_two a_mmade a_mrest a_old v_thrown u_238.1 u_238.2.1 u_238.2.2.1 u_238.2.2.2.1 u_238.2.2.2.2.1 u_238.2.2.2.2.2.1 u_238.2.2.2.2.2.2.1 u_238.2.2.2.2.2.2.2.1 u_238.2.2.2.2.2.2.2.2 v_mwanted u_219 v_after v_calls v_oneB v_twoB)) (w2 := (wX12_stored cI cB a_mo a_mem a_mks a_mr a_cnt a_wd a_one a_two a_mmade a_mrest a_old v_thrown u_238.1 u_238.2.1 u_238.2.2.1 u_238.2.2.2.1 u_238.2.2.2.2.1 u_238.2.2.2.2.2.1 u_238.2.2.2.2.2.2.1 u_238.2.2.2.2.2.2.2.1 u_238.2.2.2.2.2.2.2.2 v_mwanted u_219 v_after v_calls v_oneB v_twoB v_mF v_mkF v_mrF v_wdF)) (wr := [(a_mem, .inl (cI, 8192, .inl v_mF)), (a_mks, .inl (cI, 4, .inl v_mkF)), (a_mr, .inl (cI, 16, .inl v_mrF)), (a_wd, .inl (cI, 6, .inl v_wdF))]) hP hD [0] [1, 2, 3, 4] [4, 0, 1, 2, 3] rfl rfl (by decide) (by decide) hk9 hFc hB9 ht9 (by decide) rfl
                      clear hB9 hk9 hz9 hvm9 ht9 hFc hPc hDc
                      generalize H1 = H at hP hS ⊢
                      refine lv_goto (tgt := 249) hx hb dX12_stored_241 (by decide) ?_
                      have hf9 : (u_238.1, u_238.2.1, u_238.2.2.1, u_238.2.2.2.1, u_238.2.2.2.2.1, u_238.2.2.2.2.2.1, u_238.2.2.2.2.2.2.1, u_238.2.2.2.2.2.2.2.1, u_238.2.2.2.2.2.2.2.2, u_219, v_after, v_mF, v_mrF) = fX12_stored x0 v_mask v_key v_wait v_problem v_code v_length v_cond v_masks v_addr v_wrong v_after v_mF v_mkF v_mrF v_wdF := by subst ex_18; subst ex_8; simp only [fX12_stored, ← er_21, ← eu_202, ← eu_211, ← eu_219, ← er_235, ← eu_238]; (try simp only [if_neg c_30, if_pos c_37, if_neg c_58, if_neg c_65, if_neg c_84, if_neg c_91, if_pos c_121, if_neg c_151, if_pos c_198, if_pos c_226])
                      exact W.vret hx hb hr (fun t9 ht9 hW9 => ⟨⟨(u_238.1, u_238.2.1, u_238.2.2.1, u_238.2.2.2.1, u_238.2.2.2.2.1, u_238.2.2.2.2.2.1, u_238.2.2.2.2.2.2.1, u_238.2.2.2.2.2.2.2.1, u_238.2.2.2.2.2.2.2.2, u_219, v_after, v_mF, v_mrF), rfl, hf9, ⟨by rw [ht9]; exact hP, va_K.moved hW9.alike hK, hD⟩⟩, hS.F ht9⟩) hS.2.2 dX12_stored_249
                · skip
                  refine lv_aload_n hx hb dX12_stored_154 rfl (lv_at hl 3 rfl) ?_
                  have hPc : va_P D vwCl (wX12_supervisor cI cB a_mo a_mem a_mks a_mr a_cnt a_wd a_one a_two a_mmade a_mrest a_old v_thrown v_mask v_key v_wait v_problem v_code v_length v_cond v_masks v_addr v_mwanted v_wrong v_after v_calls v_oneB v_twoB) H := hP.sub [0] rfl
                  have hDc : va_D A (wX12_supervisor cI cB a_mo a_mem a_mks a_mr a_cnt a_wd a_one a_two a_mmade a_mrest a_old v_thrown v_mask v_key v_wait v_problem v_code v_length v_cond v_masks v_addr v_mwanted v_wrong v_after v_calls v_oneB v_twoB) := hD.sub [0] (by decide) rfl
                  have hFc := va_free (wc := (wX12_supervisor cI cB a_mo a_mem a_mks a_mr a_cnt a_wd a_one a_two a_mmade a_mrest a_old v_thrown v_mask v_key v_wait v_problem v_code v_length v_cond v_masks v_addr v_mwanted v_wrong v_after v_calls v_oneB v_twoB)) hD hS hA [0] rfl
                  refine va_callv (va_runV (As := []) (rest := []) ⟨hx, hb, hml, hown, hts⟩ (kX12_supervisor l D cI cB a_mo a_mem a_mks a_mr a_cnt a_wd a_one a_two a_mmade a_mrest a_old H.size v_thrown v_mask v_key v_wait v_problem v_code v_length v_cond v_masks v_addr v_mwanted v_wrong v_after v_calls v_oneB v_twoB ) (cwV 0 hts (gd_V wd_913 wd_914 wd_915 wd_807 wd_842) rfl rfl rfl hdX12_supervisor ⟨Nat.le_of_ble_eq_true rfl, Nat.le_of_ble_eq_true rfl⟩) (preV_std (ci := 12) (q0 := 0) hPc hK hDc hNW rfl rfl) rfl rfl hl.1 rfl (lv_room (Nat.le_of_ble_eq_true rfl)) dX12_stored_155 ⟨Nat.zero_le _, Nat.zero_le _⟩) hS (fun q _ h => hFc q h) hFc (fun u_155 t9 H1 locs ht9 hvm9 hw9 hB9 hz9 hk9 hS => ?_)
                  have eu_155 : u_155 = fX12_supervisor v_problem v_wrong := hw9
                  obtain ⟨hP, hD⟩ := back_std (w1 := (wX12_supervisor cI cB a_mo a_mem a_mks a_mr a_cnt a_wd a_one a_two a_mmade a_mrest a_old v_thrown v_mask v_key v_wait v_problem v_code v_length v_cond v_masks v_addr v_mwanted u_155 v_after v_calls v_oneB v_twoB)) (w2 := (wX12_stored cI cB a_mo a_mem a_mks a_mr a_cnt a_wd a_one a_two a_mmade a_mrest a_old v_thrown v_mask v_key v_wait v_problem v_code v_length v_cond v_masks v_addr v_mwanted u_155 v_after v_calls v_oneB v_twoB v_mF v_mkF v_mrF v_wdF)) (wr := [(a_mem, .inl (cI, 8192, .inl v_mF)), (a_mks, .inl (cI, 4, .inl v_mkF)), (a_mr, .inl (cI, 16, .inl v_mrF)), (a_wd, .inl (cI, 6, .inl v_wdF))]) hP hD [0] [1, 2, 3, 4] [4, 0, 1, 2, 3] rfl rfl (by decide) (by decide) hk9 hFc hB9 ht9 (by decide) rfl
                  clear hB9 hk9 hz9 hvm9 ht9 hFc hPc hDc
                  generalize H1 = H at hP hS ⊢
                  refine lv_aload_n hx hb dX12_stored_158 rfl (lv_at hl 3 rfl) ?_
                  refine lv_iload hx hb dX12_stored_159 (lv_at hl 0 rfl) ?_
                  refine lv_iconst (v := 1) hx hb dX12_stored_161 (by decide) ?_
                  refine lv_iconst (v := 0) hx hb dX12_stored_162 (by decide) ?_
                  have hPc : va_P D vwCl (wX12_look cI cB a_mo a_mem a_mks a_mr a_cnt a_wd a_one a_two a_mmade a_mrest a_old v_thrown v_mask v_key v_wait v_problem v_code v_length v_cond v_masks v_addr v_mwanted u_155 v_after v_calls v_oneB v_twoB v_mkF) H := hP.sub [0, 2] rfl
                  have hDc : va_D A (wX12_look cI cB a_mo a_mem a_mks a_mr a_cnt a_wd a_one a_two a_mmade a_mrest a_old v_thrown v_mask v_key v_wait v_problem v_code v_length v_cond v_masks v_addr v_mwanted u_155 v_after v_calls v_oneB v_twoB v_mkF) := hD.sub [0, 2] (by decide) rfl
                  have hFc := va_free (wc := (wX12_look cI cB a_mo a_mem a_mks a_mr a_cnt a_wd a_one a_two a_mmade a_mrest a_old v_thrown v_mask v_key v_wait v_problem v_code v_length v_cond v_masks v_addr v_mwanted u_155 v_after v_calls v_oneB v_twoB v_mkF)) hD hS hA [0, 2] rfl
                  refine va_callv (va_runV (As := [.int r_21, .int 1, .int 0]) (rest := []) ⟨hx, hb, hml, hown, hts⟩ (kX12_look l D cI cB a_mo a_mem a_mks a_mr a_cnt a_wd a_one a_two a_mmade a_mrest a_old H.size v_thrown v_mask v_key v_wait v_problem v_code v_length v_cond v_masks v_addr v_mwanted u_155 v_after v_calls v_oneB v_twoB v_mkF r_21 1 0) (cwV 3 hts (gd_V wd_857 wd_858 wd_859 wd_807 wd_837) rfl rfl rfl hdX12_look ⟨Nat.le_of_ble_eq_true rfl, Nat.le_of_ble_eq_true rfl⟩) (preV_std (ci := 12) (q0 := 0) hPc hK hDc hNW rfl rfl) rfl rfl hl.1 rfl (lv_room (Nat.le_of_ble_eq_true rfl)) dX12_stored_163 ⟨Nat.zero_le _, Nat.zero_le _⟩) hS (fun q _ h => hFc q h) hFc (fun u_163 t9 H1 locs ht9 hvm9 hw9 hB9 hz9 hk9 hS => ?_)
                  have eu_163 : u_163 = fX12_look r_21 1 0 v_key u_155 v_mkF := hw9
                  obtain ⟨hP, hD⟩ := back_std (w1 := (wX12_look cI cB a_mo a_mem a_mks a_mr a_cnt a_wd a_one a_two a_mmade a_mrest a_old v_thrown v_mask v_key v_wait v_problem v_code v_length v_cond v_masks v_addr v_mwanted u_163 v_after v_calls v_oneB v_twoB v_mkF)) (w2 := (wX12_stored cI cB a_mo a_mem a_mks a_mr a_cnt a_wd a_one a_two a_mmade a_mrest a_old v_thrown v_mask v_key v_wait v_problem v_code v_length v_cond v_masks v_addr v_mwanted u_163 v_after v_calls v_oneB v_twoB v_mF v_mkF v_mrF v_wdF)) (wr := [(a_mem, .inl (cI, 8192, .inl v_mF)), (a_mr, .inl (cI, 16, .inl v_mrF)), (a_wd, .inl (cI, 6, .inl v_wdF))]) hP hD [0, 2] [1, 3, 4] [3, 0, 4, 1, 2] rfl rfl (by decide) (by decide) hk9 hFc hB9 ht9 (by decide) rfl
                  clear hB9 hk9 hz9 hvm9 ht9 hFc hPc hDc
                  generalize H1 = H at hP hS ⊢
                  refine lv_aload_n hx hb dX12_stored_166 rfl (lv_at hl 3 rfl) ?_
                  refine lv_aload_n hx hb dX12_stored_167 rfl (lv_at hl 3 rfl) ?_
                  refine va_get (D := D) (ci := 12) (v := .int u_163) (C := RX12) (T := TX12) (N := 26) hx hb hts in_X12 hown hK hP 0 rfl rfl 16 (by decide) q_1 (fun _ h9 => h9) rfl dX12_stored_168 ?_
                  have J_188 : ∀ (m_188 : Int32), m_188 = (if u_163 ≤ 0 then ((v_mF (r_21 : Int32).toNatClampNeg)) else (v_mask)) → ∀ (H : Heap) (locs : List Loc), va_P D vwCl (wX12_stored cI cB a_mo a_mem a_mks a_mr a_cnt a_wd a_one a_two a_mmade a_mrest a_old v_thrown v_mask v_key v_wait v_problem v_code v_length v_cond v_masks v_addr v_mwanted u_163 v_after v_calls v_oneB v_twoB v_mF v_mkF v_mrF v_wdF) H → va_D A (wX12_stored cI cB a_mo a_mem a_mks a_mr a_cnt a_wd a_one a_two a_mmade a_mrest a_old v_thrown v_mask v_key v_wait v_problem v_code v_length v_cond v_masks v_addr v_mwanted u_163 v_after v_calls v_oneB v_twoB v_mF v_mkF v_mrF v_wdF) → va_S A s.heap H locs → ∀ (ls : Array Slot), lv_has ls 5 [(0, .ref a_mo), (1, .int x0), (2, .int x_8), (3, .int x_18), (4, .int r_21)] → W p l e rmX12_stored s m ([.ref a_mo, .int x0] : List Value).toArray below meth c H locs 0 0 (MQ below (qX12_stored D cI cB a_mo a_mem a_mks a_mr a_cnt a_wd a_one a_two a_mmade a_mrest a_old v_thrown v_mask v_key v_wait v_problem v_code v_length v_cond v_masks v_addr v_mwanted v_wrong v_after v_calls v_oneB v_twoB v_mF v_mkF v_mrF v_wdF x0 A) ([.ref a_mo, .int x0] : List Value).toArray s 0 0 A) (F0 m 188 ls [.int m_188, .ref a_mo]) := by
                    intro m_188 em_188 H locs hP hD hS ls hl
                    try dsimp only at em_188
                    refine va_put (D := D) (ci := 12) (v := .int m_188) (ty := .int) (C := RX12) (T := TX12) (N := 26) hx hb hts in_X12 tyX12 tyX12_ok nmX12 hown hK hP hD hS 0 rfl rfl 4 (by decide) q_3 (fun _ h9 => h9) rfl (by decide +kernel) rfl rfl (Nat.le_of_ble_eq_true rfl) dX12_stored_188 (fun H locs hP hD hS => ?_)
                    have hP : va_P D vwCl (wX12_stored cI cB a_mo a_mem a_mks a_mr a_cnt a_wd a_one a_two a_mmade a_mrest a_old v_thrown m_188 v_key v_wait v_problem v_code v_length v_cond v_masks v_addr v_mwanted u_163 v_after v_calls v_oneB v_twoB v_mF v_mkF v_mrF v_wdF) H := hP
                    have hD : va_D A (wX12_stored cI cB a_mo a_mem a_mks a_mr a_cnt a_wd a_one a_two a_mmade a_mrest a_old v_thrown m_188 v_key v_wait v_problem v_code v_length v_cond v_masks v_addr v_mwanted u_163 v_after v_calls v_oneB v_twoB v_mF v_mkF v_mrF v_wdF) := hD
                    refine lv_goto (tgt := 249) hx hb dX12_stored_191 (by decide) ?_
                    have hf9 : (m_188, v_key, v_wait, v_problem, v_code, v_length, v_cond, v_masks, v_addr, u_163, v_after, v_mF, v_mrF) = fX12_stored x0 v_mask v_key v_wait v_problem v_code v_length v_cond v_masks v_addr v_wrong v_after v_mF v_mkF v_mrF v_wdF := by subst ex_18; subst ex_8; simp only [fX12_stored, ← er_21, ← eu_155, ← eu_163, ← em_188]; (try simp only [if_neg c_30, if_pos c_37, if_neg c_58, if_neg c_65, if_neg c_84, if_neg c_91, if_pos c_121, if_pos c_151])
                    exact W.vret hx hb hr (fun t9 ht9 hW9 => ⟨⟨(m_188, v_key, v_wait, v_problem, v_code, v_length, v_cond, v_masks, v_addr, u_163, v_after, v_mF, v_mrF), rfl, hf9, ⟨by rw [ht9]; exact hP, va_K.moved hW9.alike hK, hD⟩⟩, hS.F ht9⟩) hS.2.2 dX12_stored_249
                  refine lv_if_le (tgt := 181) hx hb dX12_stored_171 (by decide) (fun c_171 => ?_) (fun c_171 => ?_)
                  · skip
                    refine lv_aload_n hx hb dX12_stored_181 rfl (lv_at hl 3 rfl) ?_
                    refine va_get (D := D) (ci := 12) (v := .ref a_mem) (C := RX12) (T := TX12) (N := 26) hx hb hts in_X12 hown hK hP 0 rfl rfl 1 (by decide) q_2 (fun _ h9 => h9) rfl dX12_stored_182 ?_
                    refine lv_iload hx hb dX12_stored_185 (lv_at hl 0 rfl) ?_
                    refine va_iald hx hb hK hP 1 0 rfl rfl (lk_in ha (by rw [eu_155]; exact sup_nn hw) eu_163 c_171) dX12_stored_187 ?_
                    exact J_188 (v_mF (r_21 : Int32).toNatClampNeg) (by (try simp only [if_pos c_171])) _ _ hP hD hS ls (lv_sub hl [3, 4, 2, 1, 0] rfl)
                  · skip
                    refine lv_aload_n hx hb dX12_stored_174 rfl (lv_at hl 3 rfl) ?_
                    refine va_get (D := D) (ci := 12) (v := .int v_mask) (C := RX12) (T := TX12) (N := 26) hx hb hts in_X12 hown hK hP 0 rfl rfl 4 (by decide) q_3 (fun _ h9 => h9) rfl dX12_stored_175 ?_
                    refine lv_goto (tgt := 188) hx hb dX12_stored_178 (by decide) ?_
                    exact J_188 v_mask (by (try simp only [if_neg c_171])) _ _ hP hD hS ls (lv_sub hl [3, 4, 2, 1, 0] rfl)
              · skip
                refine lv_iload_n hx hb dX12_stored_124 rfl (lv_at hl 4 rfl) ?_
                refine lv_sipush (v := 151) hx hb dX12_stored_125 (by decide) ?_
                refine lv_icmp_gt (tgt := 147) hx hb dX12_stored_128 (by decide) (fun c_128 => ?_) (fun c_128 => ?_)
                · skip
                  refine lv_iload_n hx hb dX12_stored_147 rfl (lv_at hl 4 rfl) ?_
                  refine lv_sipush (v := 128) hx hb dX12_stored_148 (by decide) ?_
                  refine lv_icmp_ne (tgt := 194) hx hb dX12_stored_151 (by decide) (fun c_151 => ?_) (fun c_151 => ?_)
                  · skip
                    refine lv_iload_n hx hb dX12_stored_194 rfl (lv_at hl 4 rfl) ?_
                    refine lv_sipush (v := 130) hx hb dX12_stored_195 (by decide) ?_
                    refine lv_icmp_ne (tgt := 244) hx hb dX12_stored_198 (by decide) (fun c_198 => ?_) (fun c_198 => ?_)
                    · skip
                      refine lv_aload_n hx hb dX12_stored_244 rfl (lv_at hl 3 rfl) ?_
                      refine lv_iconst (v := 1) hx hb dX12_stored_245 (by decide) ?_
                      have hPc : va_P D vwCl (wX12_meet cI cB a_mo a_mem a_mks a_mr a_cnt a_wd a_one a_two a_mmade a_mrest a_old v_thrown v_mask v_key v_wait v_problem v_code v_length v_cond v_masks v_addr v_mwanted v_wrong v_after v_calls v_oneB v_twoB) H := hP.sub [0] rfl
                      have hDc : va_D A (wX12_meet cI cB a_mo a_mem a_mks a_mr a_cnt a_wd a_one a_two a_mmade a_mrest a_old v_thrown v_mask v_key v_wait v_problem v_code v_length v_cond v_masks v_addr v_mwanted v_wrong v_after v_calls v_oneB v_twoB) := hD.sub [0] (by decide) rfl
                      have hFc := va_free (wc := (wX12_meet cI cB a_mo a_mem a_mks a_mr a_cnt a_wd a_one a_two a_mmade a_mrest a_old v_thrown v_mask v_key v_wait v_problem v_code v_length v_cond v_masks v_addr v_mwanted v_wrong v_after v_calls v_oneB v_twoB)) hD hS hA [0] rfl
                      refine va_callv (va_runV (As := [.int 1]) (rest := []) ⟨hx, hb, hml, hown, hts⟩ (kX12_meet l D cI cB a_mo a_mem a_mks a_mr a_cnt a_wd a_one a_two a_mmade a_mrest a_old H.size v_thrown v_mask v_key v_wait v_problem v_code v_length v_cond v_masks v_addr v_mwanted v_wrong v_after v_calls v_oneB v_twoB 1) (cwV 1 hts (gd_V wd_838 wd_839 wd_840 wd_807 wd_835) rfl rfl rfl hdX12_meet ⟨Nat.le_of_ble_eq_true rfl, Nat.le_of_ble_eq_true rfl⟩) (preV_std (ci := 12) (q0 := 0) hPc hK hDc hNW rfl rfl) rfl rfl hl.1 rfl (lv_room (Nat.le_of_ble_eq_true rfl)) dX12_stored_246 ⟨Nat.zero_le _, Nat.zero_le _⟩) hS (fun q _ h => hFc q h) hFc (fun u_246 t9 H1 locs ht9 hvm9 hw9 hB9 hz9 hk9 hS => ?_)
                      have eu_246 : u_246 = fX12_meet 1 v_wrong := hw9
                      obtain ⟨hP, hD⟩ := back_std (w1 := (wX12_meet cI cB a_mo a_mem a_mks a_mr a_cnt a_wd a_one a_two a_mmade a_mrest a_old v_thrown v_mask v_key v_wait v_problem v_code v_length v_cond v_masks v_addr v_mwanted u_246 v_after v_calls v_oneB v_twoB)) (w2 := (wX12_stored cI cB a_mo a_mem a_mks a_mr a_cnt a_wd a_one a_two a_mmade a_mrest a_old v_thrown v_mask v_key v_wait v_problem v_code v_length v_cond v_masks v_addr v_mwanted u_246 v_after v_calls v_oneB v_twoB v_mF v_mkF v_mrF v_wdF)) (wr := [(a_mem, .inl (cI, 8192, .inl v_mF)), (a_mks, .inl (cI, 4, .inl v_mkF)), (a_mr, .inl (cI, 16, .inl v_mrF)), (a_wd, .inl (cI, 6, .inl v_wdF))]) hP hD [0] [1, 2, 3, 4] [4, 0, 1, 2, 3] rfl rfl (by decide) (by decide) hk9 hFc hB9 ht9 (by decide) rfl
                      clear hB9 hk9 hz9 hvm9 ht9 hFc hPc hDc
                      generalize H1 = H at hP hS ⊢
                      have hf9 : (v_mask, v_key, v_wait, v_problem, v_code, v_length, v_cond, v_masks, v_addr, u_246, v_after, v_mF, v_mrF) = fX12_stored x0 v_mask v_key v_wait v_problem v_code v_length v_cond v_masks v_addr v_wrong v_after v_mF v_mkF v_mrF v_wdF := by subst ex_18; subst ex_8; simp only [fX12_stored, ← er_21, ← eu_246]; (try simp only [if_neg c_30, if_pos c_37, if_neg c_58, if_neg c_65, if_neg c_84, if_neg c_91, if_neg c_121, if_pos c_128, if_neg c_151, if_neg c_198])
                      exact W.vret hx hb hr (fun t9 ht9 hW9 => ⟨⟨(v_mask, v_key, v_wait, v_problem, v_code, v_length, v_cond, v_masks, v_addr, u_246, v_after, v_mF, v_mrF), rfl, hf9, ⟨by rw [ht9]; exact hP, va_K.moved hW9.alike hK, hD⟩⟩, hS.F ht9⟩) hS.2.2 dX12_stored_249
                    · skip
                      refine lv_aload_n hx hb dX12_stored_201 rfl (lv_at hl 3 rfl) ?_
                      have hPc : va_P D vwCl (wX12_supervisor cI cB a_mo a_mem a_mks a_mr a_cnt a_wd a_one a_two a_mmade a_mrest a_old v_thrown v_mask v_key v_wait v_problem v_code v_length v_cond v_masks v_addr v_mwanted v_wrong v_after v_calls v_oneB v_twoB) H := hP.sub [0] rfl
                      have hDc : va_D A (wX12_supervisor cI cB a_mo a_mem a_mks a_mr a_cnt a_wd a_one a_two a_mmade a_mrest a_old v_thrown v_mask v_key v_wait v_problem v_code v_length v_cond v_masks v_addr v_mwanted v_wrong v_after v_calls v_oneB v_twoB) := hD.sub [0] (by decide) rfl
                      have hFc := va_free (wc := (wX12_supervisor cI cB a_mo a_mem a_mks a_mr a_cnt a_wd a_one a_two a_mmade a_mrest a_old v_thrown v_mask v_key v_wait v_problem v_code v_length v_cond v_masks v_addr v_mwanted v_wrong v_after v_calls v_oneB v_twoB)) hD hS hA [0] rfl
                      refine va_callv (va_runV (As := []) (rest := []) ⟨hx, hb, hml, hown, hts⟩ (kX12_supervisor l D cI cB a_mo a_mem a_mks a_mr a_cnt a_wd a_one a_two a_mmade a_mrest a_old H.size v_thrown v_mask v_key v_wait v_problem v_code v_length v_cond v_masks v_addr v_mwanted v_wrong v_after v_calls v_oneB v_twoB ) (cwV 0 hts (gd_V wd_913 wd_914 wd_915 wd_807 wd_842) rfl rfl rfl hdX12_supervisor ⟨Nat.le_of_ble_eq_true rfl, Nat.le_of_ble_eq_true rfl⟩) (preV_std (ci := 12) (q0 := 0) hPc hK hDc hNW rfl rfl) rfl rfl hl.1 rfl (lv_room (Nat.le_of_ble_eq_true rfl)) dX12_stored_202 ⟨Nat.zero_le _, Nat.zero_le _⟩) hS (fun q _ h => hFc q h) hFc (fun u_202 t9 H1 locs ht9 hvm9 hw9 hB9 hz9 hk9 hS => ?_)
                      have eu_202 : u_202 = fX12_supervisor v_problem v_wrong := hw9
                      obtain ⟨hP, hD⟩ := back_std (w1 := (wX12_supervisor cI cB a_mo a_mem a_mks a_mr a_cnt a_wd a_one a_two a_mmade a_mrest a_old v_thrown v_mask v_key v_wait v_problem v_code v_length v_cond v_masks v_addr v_mwanted u_202 v_after v_calls v_oneB v_twoB)) (w2 := (wX12_stored cI cB a_mo a_mem a_mks a_mr a_cnt a_wd a_one a_two a_mmade a_mrest a_old v_thrown v_mask v_key v_wait v_problem v_code v_length v_cond v_masks v_addr v_mwanted u_202 v_after v_calls v_oneB v_twoB v_mF v_mkF v_mrF v_wdF)) (wr := [(a_mem, .inl (cI, 8192, .inl v_mF)), (a_mks, .inl (cI, 4, .inl v_mkF)), (a_mr, .inl (cI, 16, .inl v_mrF)), (a_wd, .inl (cI, 6, .inl v_wdF))]) hP hD [0] [1, 2, 3, 4] [4, 0, 1, 2, 3] rfl rfl (by decide) (by decide) hk9 hFc hB9 ht9 (by decide) rfl
                      clear hB9 hk9 hz9 hvm9 ht9 hFc hPc hDc
                      generalize H1 = H at hP hS ⊢
                      refine lv_aload_n hx hb dX12_stored_205 rfl (lv_at hl 3 rfl) ?_
                      refine lv_iload hx hb dX12_stored_206 (lv_at hl 0 rfl) ?_
                      refine lv_bipush (v := 8) hx hb dX12_stored_208 (by decide) ?_
                      refine lv_iconst (v := 0) hx hb dX12_stored_210 (by decide) ?_
                      have hPc : va_P D vwCl (wX12_look cI cB a_mo a_mem a_mks a_mr a_cnt a_wd a_one a_two a_mmade a_mrest a_old v_thrown v_mask v_key v_wait v_problem v_code v_length v_cond v_masks v_addr v_mwanted u_202 v_after v_calls v_oneB v_twoB v_mkF) H := hP.sub [0, 2] rfl
                      have hDc : va_D A (wX12_look cI cB a_mo a_mem a_mks a_mr a_cnt a_wd a_one a_two a_mmade a_mrest a_old v_thrown v_mask v_key v_wait v_problem v_code v_length v_cond v_masks v_addr v_mwanted u_202 v_after v_calls v_oneB v_twoB v_mkF) := hD.sub [0, 2] (by decide) rfl
                      have hFc := va_free (wc := (wX12_look cI cB a_mo a_mem a_mks a_mr a_cnt a_wd a_one a_two a_mmade a_mrest a_old v_thrown v_mask v_key v_wait v_problem v_code v_length v_cond v_masks v_addr v_mwanted u_202 v_after v_calls v_oneB v_twoB v_mkF)) hD hS hA [0, 2] rfl
                      refine va_callv (va_runV (As := [.int r_21, .int 8, .int 0]) (rest := []) ⟨hx, hb, hml, hown, hts⟩ (kX12_look l D cI cB a_mo a_mem a_mks a_mr a_cnt a_wd a_one a_two a_mmade a_mrest a_old H.size v_thrown v_mask v_key v_wait v_problem v_code v_length v_cond v_masks v_addr v_mwanted u_202 v_after v_calls v_oneB v_twoB v_mkF r_21 8 0) (cwV 3 hts (gd_V wd_857 wd_858 wd_859 wd_807 wd_837) rfl rfl rfl hdX12_look ⟨Nat.le_of_ble_eq_true rfl, Nat.le_of_ble_eq_true rfl⟩) (preV_std (ci := 12) (q0 := 0) hPc hK hDc hNW rfl rfl) rfl rfl hl.1 rfl (lv_room (Nat.le_of_ble_eq_true rfl)) dX12_stored_211 ⟨Nat.zero_le _, Nat.zero_le _⟩) hS (fun q _ h => hFc q h) hFc (fun u_211 t9 H1 locs ht9 hvm9 hw9 hB9 hz9 hk9 hS => ?_)
                      have eu_211 : u_211 = fX12_look r_21 8 0 v_key u_202 v_mkF := hw9
                      obtain ⟨hP, hD⟩ := back_std (w1 := (wX12_look cI cB a_mo a_mem a_mks a_mr a_cnt a_wd a_one a_two a_mmade a_mrest a_old v_thrown v_mask v_key v_wait v_problem v_code v_length v_cond v_masks v_addr v_mwanted u_211 v_after v_calls v_oneB v_twoB v_mkF)) (w2 := (wX12_stored cI cB a_mo a_mem a_mks a_mr a_cnt a_wd a_one a_two a_mmade a_mrest a_old v_thrown v_mask v_key v_wait v_problem v_code v_length v_cond v_masks v_addr v_mwanted u_211 v_after v_calls v_oneB v_twoB v_mF v_mkF v_mrF v_wdF)) (wr := [(a_mem, .inl (cI, 8192, .inl v_mF)), (a_mr, .inl (cI, 16, .inl v_mrF)), (a_wd, .inl (cI, 6, .inl v_wdF))]) hP hD [0, 2] [1, 3, 4] [3, 0, 4, 1, 2] rfl rfl (by decide) (by decide) hk9 hFc hB9 ht9 (by decide) rfl
                      clear hB9 hk9 hz9 hvm9 ht9 hFc hPc hDc
                      generalize H1 = H at hP hS ⊢
                      refine lv_aload_n hx hb dX12_stored_214 rfl (lv_at hl 3 rfl) ?_
                      refine lv_iload hx hb dX12_stored_215 (lv_at hl 0 rfl) ?_
                      refine lv_bipush (v := 8) hx hb dX12_stored_217 (by decide) ?_
                      have hPc : va_P D vwCl (wX12_even cI cB a_mo a_mem a_mks a_mr a_cnt a_wd a_one a_two a_mmade a_mrest a_old v_thrown v_mask v_key v_wait v_problem v_code v_length v_cond v_masks v_addr v_mwanted u_211 v_after v_calls v_oneB v_twoB) H := hP.sub [0] rfl
                      have hDc : va_D A (wX12_even cI cB a_mo a_mem a_mks a_mr a_cnt a_wd a_one a_two a_mmade a_mrest a_old v_thrown v_mask v_key v_wait v_problem v_code v_length v_cond v_masks v_addr v_mwanted u_211 v_after v_calls v_oneB v_twoB) := hD.sub [0] (by decide) rfl
                      have hFc := va_free (wc := (wX12_even cI cB a_mo a_mem a_mks a_mr a_cnt a_wd a_one a_two a_mmade a_mrest a_old v_thrown v_mask v_key v_wait v_problem v_code v_length v_cond v_masks v_addr v_mwanted u_211 v_after v_calls v_oneB v_twoB)) hD hS hA [0] rfl
                      refine va_callv (va_runV (As := [.int r_21, .int 8]) (rest := []) ⟨hx, hb, hml, hown, hts⟩ (kX12_even l D cI cB a_mo a_mem a_mks a_mr a_cnt a_wd a_one a_two a_mmade a_mrest a_old H.size v_thrown v_mask v_key v_wait v_problem v_code v_length v_cond v_masks v_addr v_mwanted u_211 v_after v_calls v_oneB v_twoB r_21 8 (by first | with_reducible assumption | decide | (unfold vp_in; decide))) (cwV 2 hts (gd_V wd_860 wd_861 wd_862 wd_807 wd_841) rfl rfl rfl hdX12_even ⟨Nat.le_of_ble_eq_true rfl, Nat.le_of_ble_eq_true rfl⟩) (preV_std (ci := 12) (q0 := 0) hPc hK hDc hNW rfl rfl) rfl rfl hl.1 rfl (lv_room (Nat.le_of_ble_eq_true rfl)) dX12_stored_219 ⟨Nat.zero_le _, Nat.zero_le _⟩) hS (fun q _ h => hFc q h) hFc (fun u_219 t9 H1 locs ht9 hvm9 hw9 hB9 hz9 hk9 hS => ?_)
                      have eu_219 : u_219 = fX12_even r_21 8 u_211 := hw9
                      obtain ⟨hP, hD⟩ := back_std (w1 := (wX12_even cI cB a_mo a_mem a_mks a_mr a_cnt a_wd a_one a_two a_mmade a_mrest a_old v_thrown v_mask v_key v_wait v_problem v_code v_length v_cond v_masks v_addr v_mwanted u_219 v_after v_calls v_oneB v_twoB)) (w2 := (wX12_stored cI cB a_mo a_mem a_mks a_mr a_cnt a_wd a_one a_two a_mmade a_mrest a_old v_thrown v_mask v_key v_wait v_problem v_code v_length v_cond v_masks v_addr v_mwanted u_219 v_after v_calls v_oneB v_twoB v_mF v_mkF v_mrF v_wdF)) (wr := [(a_mem, .inl (cI, 8192, .inl v_mF)), (a_mks, .inl (cI, 4, .inl v_mkF)), (a_mr, .inl (cI, 16, .inl v_mrF)), (a_wd, .inl (cI, 6, .inl v_wdF))]) hP hD [0] [1, 2, 3, 4] [4, 0, 1, 2, 3] rfl rfl (by decide) (by decide) hk9 hFc hB9 ht9 (by decide) rfl
                      clear hB9 hk9 hz9 hvm9 ht9 hFc hPc hDc
                      generalize H1 = H at hP hS ⊢
                      refine lv_aload_n hx hb dX12_stored_222 rfl (lv_at hl 3 rfl) ?_
                      refine va_get (D := D) (ci := 12) (v := .int u_219) (C := RX12) (T := TX12) (N := 26) hx hb hts in_X12 hown hK hP 0 rfl rfl 16 (by decide) q_1 (fun _ h9 => h9) rfl dX12_stored_223 ?_
                      refine lv_if_ne (tgt := 249) hx hb dX12_stored_226 (by decide) (fun c_226 => ?_) (fun c_226 => ?_)
                      · skip
                        have hf9 : (v_mask, v_key, v_wait, v_problem, v_code, v_length, v_cond, v_masks, v_addr, u_219, v_after, v_mF, v_mrF) = fX12_stored x0 v_mask v_key v_wait v_problem v_code v_length v_cond v_masks v_addr v_wrong v_after v_mF v_mkF v_mrF v_wdF := by subst ex_18; subst ex_8; simp only [fX12_stored, ← er_21, ← eu_202, ← eu_211, ← eu_219]; (try simp only [if_neg c_30, if_pos c_37, if_neg c_58, if_neg c_65, if_neg c_84, if_neg c_91, if_neg c_121, if_pos c_128, if_neg c_151, if_pos c_198, if_neg c_226])
                        exact W.vret hx hb hr (fun t9 ht9 hW9 => ⟨⟨(v_mask, v_key, v_wait, v_problem, v_code, v_length, v_cond, v_masks, v_addr, u_219, v_after, v_mF, v_mrF), rfl, hf9, ⟨by rw [ht9]; exact hP, va_K.moved hW9.alike hK, hD⟩⟩, hS.F ht9⟩) hS.2.2 dX12_stored_249
                      · skip
                        refine lv_aload_n hx hb dX12_stored_229 rfl (lv_at hl 3 rfl) ?_
                        refine lv_aload_n hx hb dX12_stored_230 rfl (lv_at hl 3 rfl) ?_
                        refine lv_iload hx hb dX12_stored_231 (lv_at hl 0 rfl) ?_
                        refine lv_bipush (v := 8) hx hb dX12_stored_233 (by decide) ?_
                        have hPc : va_P D vwCl (wX12_fetch cI cB a_mo a_mem a_mks a_mr a_cnt a_wd a_one a_two a_mmade a_mrest a_old v_thrown v_mask v_key v_wait v_problem v_code v_length v_cond v_masks v_addr v_mwanted u_219 v_after v_calls v_oneB v_twoB v_mF) H := hP.sub [0, 1] rfl
                        have hDc : va_D A (wX12_fetch cI cB a_mo a_mem a_mks a_mr a_cnt a_wd a_one a_two a_mmade a_mrest a_old v_thrown v_mask v_key v_wait v_problem v_code v_length v_cond v_masks v_addr v_mwanted u_219 v_after v_calls v_oneB v_twoB v_mF) := hD.sub [0, 1] (by decide) rfl
                        have hFc := va_free (wc := (wX12_fetch cI cB a_mo a_mem a_mks a_mr a_cnt a_wd a_one a_two a_mmade a_mrest a_old v_thrown v_mask v_key v_wait v_problem v_code v_length v_cond v_masks v_addr v_mwanted u_219 v_after v_calls v_oneB v_twoB v_mF)) hD hS hA [0, 1] rfl
                        refine va_calll (va_runV (As := [.int r_21, .int 8]) (rest := [.ref a_mo]) ⟨hx, hb, hml, hown, hts⟩ (kX12_fetch l D cI cB a_mo a_mem a_mks a_mr a_cnt a_wd a_one a_two a_mmade a_mrest a_old H.size v_thrown v_mask v_key v_wait v_problem v_code v_length v_cond v_masks v_addr v_mwanted u_219 v_after v_calls v_oneB v_twoB v_mF r_21 8 (op_in ha (Or.inr (Or.inr (Or.inr rfl))) (by rw [eu_202]; exact sup_nn hw) eu_211 eu_219 (eq0_np c_226))) (cwV 2 hts (gd_V wd_830 wd_831 wd_832 wd_807 wd_819) rfl rfl rfl hdX12_fetch ⟨Nat.le_of_ble_eq_true rfl, Nat.le_of_ble_eq_true rfl⟩) (preV_std (ci := 12) (q0 := 0) hPc hK hDc hNW rfl rfl) rfl rfl hl.1 rfl (lv_room (Nat.le_of_ble_eq_true rfl)) dX12_stored_235 ⟨Nat.zero_le _, Nat.zero_le _⟩) hS (fun q _ h => hFc q h) hFc (fun r_235 u_235 t9 H1 locs ht9 hvm9 hw9 hB9 hz9 hk9 hS => ?_)
                        have er_235 : r_235 = fX12_fetch r_21 8 v_mF := hw9
                        obtain ⟨hP, hD⟩ := back_std (w1 := (wX12_fetch cI cB a_mo a_mem a_mks a_mr a_cnt a_wd a_one a_two a_mmade a_mrest a_old v_thrown v_mask v_key v_wait v_problem v_code v_length v_cond v_masks v_addr v_mwanted u_219 v_after v_calls v_oneB v_twoB v_mF)) (w2 := (wX12_stored cI cB a_mo a_mem a_mks a_mr a_cnt a_wd a_one a_two a_mmade a_mrest a_old v_thrown v_mask v_key v_wait v_problem v_code v_length v_cond v_masks v_addr v_mwanted u_219 v_after v_calls v_oneB v_twoB v_mF v_mkF v_mrF v_wdF)) (wr := [(a_mks, .inl (cI, 4, .inl v_mkF)), (a_mr, .inl (cI, 16, .inl v_mrF)), (a_wd, .inl (cI, 6, .inl v_wdF))]) hP hD [0, 1] [2, 3, 4] [3, 4, 0, 1, 2] rfl rfl (by decide) (by decide) hk9 hFc hB9 ht9 (by decide) rfl
                        clear hB9 hk9 hz9 hvm9 ht9 hFc hPc hDc
                        generalize H1 = H at hP hS ⊢
                        have hPc : va_P D vwCl (wX12_become cI cB a_mo a_mem a_mks a_mr a_cnt a_wd a_one a_two a_mmade a_mrest a_old v_thrown v_mask v_key v_wait v_problem v_code v_length v_cond v_masks v_addr v_mwanted u_219 v_after v_calls v_oneB v_twoB) H := hP.sub [0] rfl
                        have hDc : va_D A (wX12_become cI cB a_mo a_mem a_mks a_mr a_cnt a_wd a_one a_two a_mmade a_mrest a_old v_thrown v_mask v_key v_wait v_problem v_code v_length v_cond v_masks v_addr v_mwanted u_219 v_after v_calls v_oneB v_twoB) := hD.sub [0] (by decide) rfl
                        have hFc := va_free (wc := (wX12_become cI cB a_mo a_mem a_mks a_mr a_cnt a_wd a_one a_two a_mmade a_mrest a_old v_thrown v_mask v_key v_wait v_problem v_code v_length v_cond v_masks v_addr v_mwanted u_219 v_after v_calls v_oneB v_twoB)) hD hS hA [0] rfl
                        refine va_callv (va_runV (As := [.long r_235]) (rest := []) ⟨hx, hb, hml, hown, hts⟩ (kX12_become l D cI cB a_mo a_mem a_mks a_mr a_cnt a_wd a_one a_two a_mmade a_mrest a_old H.size v_thrown v_mask v_key v_wait v_problem v_code v_length v_cond v_masks v_addr v_mwanted u_219 v_after v_calls v_oneB v_twoB r_235) (cwV 1 hts (gd_V wd_816 wd_817 wd_818 wd_807 wd_808) rfl rfl rfl hdX12_become ⟨Nat.le_of_ble_eq_true rfl, Nat.le_of_ble_eq_true rfl⟩) (preV_std (ci := 12) (q0 := 0) hPc hK hDc hNW rfl rfl) rfl rfl hl.1 rfl (lv_room (Nat.le_of_ble_eq_true rfl)) dX12_stored_238 ⟨Nat.zero_le _, Nat.zero_le _⟩) hS (fun q _ h => hFc q h) hFc (fun u_238 t9 H1 locs ht9 hvm9 hw9 hB9 hz9 hk9 hS => ?_)
                        have eu_238 : u_238 = fX12_become r_235 v_mask v_key v_wait v_problem v_code v_length v_cond v_masks v_addr := hw9
                        obtain ⟨hP, hD⟩ := back_std (w1 := (wX12_become cI cB a_mo a_mem a_mks a_mr a_cnt a_wd a_one a_two a_mmade a_mrest a_old v_thrown u_238.1 u_238.2.1 u_238.2.2.1 u_238.2.2.2.1 u_238.2.2.2.2.1 u_238.2.2.2.2.2.1 u_238.2.2.2.2.2.2.1 u_238.2.2.2.2.2.2.2.1 u_238.2.2.2.2.2.2.2.2 v_mwanted u_219 v_after v_calls v_oneB v_twoB)) (w2 := (wX12_stored cI cB a_mo a_mem a_mks a_mr a_cnt a_wd a_one a_two a_mmade a_mrest a_old v_thrown u_238.1 u_238.2.1 u_238.2.2.1 u_238.2.2.2.1 u_238.2.2.2.2.1 u_238.2.2.2.2.2.1 u_238.2.2.2.2.2.2.1 u_238.2.2.2.2.2.2.2.1 u_238.2.2.2.2.2.2.2.2 v_mwanted u_219 v_after v_calls v_oneB v_twoB v_mF v_mkF v_mrF v_wdF)) (wr := [(a_mem, .inl (cI, 8192, .inl v_mF)), (a_mks, .inl (cI, 4, .inl v_mkF)), (a_mr, .inl (cI, 16, .inl v_mrF)), (a_wd, .inl (cI, 6, .inl v_wdF))]) hP hD [0] [1, 2, 3, 4] [4, 0, 1, 2, 3] rfl rfl (by decide) (by decide) hk9 hFc hB9 ht9 (by decide) rfl
                        clear hB9 hk9 hz9 hvm9 ht9 hFc hPc hDc
                        generalize H1 = H at hP hS ⊢
                        refine lv_goto (tgt := 249) hx hb dX12_stored_241 (by decide) ?_
                        have hf9 : (u_238.1, u_238.2.1, u_238.2.2.1, u_238.2.2.2.1, u_238.2.2.2.2.1, u_238.2.2.2.2.2.1, u_238.2.2.2.2.2.2.1, u_238.2.2.2.2.2.2.2.1, u_238.2.2.2.2.2.2.2.2, u_219, v_after, v_mF, v_mrF) = fX12_stored x0 v_mask v_key v_wait v_problem v_code v_length v_cond v_masks v_addr v_wrong v_after v_mF v_mkF v_mrF v_wdF := by subst ex_18; subst ex_8; simp only [fX12_stored, ← er_21, ← eu_202, ← eu_211, ← eu_219, ← er_235, ← eu_238]; (try simp only [if_neg c_30, if_pos c_37, if_neg c_58, if_neg c_65, if_neg c_84, if_neg c_91, if_neg c_121, if_pos c_128, if_neg c_151, if_pos c_198, if_pos c_226])
                        exact W.vret hx hb hr (fun t9 ht9 hW9 => ⟨⟨(u_238.1, u_238.2.1, u_238.2.2.1, u_238.2.2.2.1, u_238.2.2.2.2.1, u_238.2.2.2.2.2.1, u_238.2.2.2.2.2.2.1, u_238.2.2.2.2.2.2.2.1, u_238.2.2.2.2.2.2.2.2, u_219, v_after, v_mF, v_mrF), rfl, hf9, ⟨by rw [ht9]; exact hP, va_K.moved hW9.alike hK, hD⟩⟩, hS.F ht9⟩) hS.2.2 dX12_stored_249
                  · skip
                    refine lv_aload_n hx hb dX12_stored_154 rfl (lv_at hl 3 rfl) ?_
                    have hPc : va_P D vwCl (wX12_supervisor cI cB a_mo a_mem a_mks a_mr a_cnt a_wd a_one a_two a_mmade a_mrest a_old v_thrown v_mask v_key v_wait v_problem v_code v_length v_cond v_masks v_addr v_mwanted v_wrong v_after v_calls v_oneB v_twoB) H := hP.sub [0] rfl
                    have hDc : va_D A (wX12_supervisor cI cB a_mo a_mem a_mks a_mr a_cnt a_wd a_one a_two a_mmade a_mrest a_old v_thrown v_mask v_key v_wait v_problem v_code v_length v_cond v_masks v_addr v_mwanted v_wrong v_after v_calls v_oneB v_twoB) := hD.sub [0] (by decide) rfl
                    have hFc := va_free (wc := (wX12_supervisor cI cB a_mo a_mem a_mks a_mr a_cnt a_wd a_one a_two a_mmade a_mrest a_old v_thrown v_mask v_key v_wait v_problem v_code v_length v_cond v_masks v_addr v_mwanted v_wrong v_after v_calls v_oneB v_twoB)) hD hS hA [0] rfl
                    refine va_callv (va_runV (As := []) (rest := []) ⟨hx, hb, hml, hown, hts⟩ (kX12_supervisor l D cI cB a_mo a_mem a_mks a_mr a_cnt a_wd a_one a_two a_mmade a_mrest a_old H.size v_thrown v_mask v_key v_wait v_problem v_code v_length v_cond v_masks v_addr v_mwanted v_wrong v_after v_calls v_oneB v_twoB ) (cwV 0 hts (gd_V wd_913 wd_914 wd_915 wd_807 wd_842) rfl rfl rfl hdX12_supervisor ⟨Nat.le_of_ble_eq_true rfl, Nat.le_of_ble_eq_true rfl⟩) (preV_std (ci := 12) (q0 := 0) hPc hK hDc hNW rfl rfl) rfl rfl hl.1 rfl (lv_room (Nat.le_of_ble_eq_true rfl)) dX12_stored_155 ⟨Nat.zero_le _, Nat.zero_le _⟩) hS (fun q _ h => hFc q h) hFc (fun u_155 t9 H1 locs ht9 hvm9 hw9 hB9 hz9 hk9 hS => ?_)
                    have eu_155 : u_155 = fX12_supervisor v_problem v_wrong := hw9
                    obtain ⟨hP, hD⟩ := back_std (w1 := (wX12_supervisor cI cB a_mo a_mem a_mks a_mr a_cnt a_wd a_one a_two a_mmade a_mrest a_old v_thrown v_mask v_key v_wait v_problem v_code v_length v_cond v_masks v_addr v_mwanted u_155 v_after v_calls v_oneB v_twoB)) (w2 := (wX12_stored cI cB a_mo a_mem a_mks a_mr a_cnt a_wd a_one a_two a_mmade a_mrest a_old v_thrown v_mask v_key v_wait v_problem v_code v_length v_cond v_masks v_addr v_mwanted u_155 v_after v_calls v_oneB v_twoB v_mF v_mkF v_mrF v_wdF)) (wr := [(a_mem, .inl (cI, 8192, .inl v_mF)), (a_mks, .inl (cI, 4, .inl v_mkF)), (a_mr, .inl (cI, 16, .inl v_mrF)), (a_wd, .inl (cI, 6, .inl v_wdF))]) hP hD [0] [1, 2, 3, 4] [4, 0, 1, 2, 3] rfl rfl (by decide) (by decide) hk9 hFc hB9 ht9 (by decide) rfl
                    clear hB9 hk9 hz9 hvm9 ht9 hFc hPc hDc
                    generalize H1 = H at hP hS ⊢
                    refine lv_aload_n hx hb dX12_stored_158 rfl (lv_at hl 3 rfl) ?_
                    refine lv_iload hx hb dX12_stored_159 (lv_at hl 0 rfl) ?_
                    refine lv_iconst (v := 1) hx hb dX12_stored_161 (by decide) ?_
                    refine lv_iconst (v := 0) hx hb dX12_stored_162 (by decide) ?_
                    have hPc : va_P D vwCl (wX12_look cI cB a_mo a_mem a_mks a_mr a_cnt a_wd a_one a_two a_mmade a_mrest a_old v_thrown v_mask v_key v_wait v_problem v_code v_length v_cond v_masks v_addr v_mwanted u_155 v_after v_calls v_oneB v_twoB v_mkF) H := hP.sub [0, 2] rfl
                    have hDc : va_D A (wX12_look cI cB a_mo a_mem a_mks a_mr a_cnt a_wd a_one a_two a_mmade a_mrest a_old v_thrown v_mask v_key v_wait v_problem v_code v_length v_cond v_masks v_addr v_mwanted u_155 v_after v_calls v_oneB v_twoB v_mkF) := hD.sub [0, 2] (by decide) rfl
                    have hFc := va_free (wc := (wX12_look cI cB a_mo a_mem a_mks a_mr a_cnt a_wd a_one a_two a_mmade a_mrest a_old v_thrown v_mask v_key v_wait v_problem v_code v_length v_cond v_masks v_addr v_mwanted u_155 v_after v_calls v_oneB v_twoB v_mkF)) hD hS hA [0, 2] rfl
                    refine va_callv (va_runV (As := [.int r_21, .int 1, .int 0]) (rest := []) ⟨hx, hb, hml, hown, hts⟩ (kX12_look l D cI cB a_mo a_mem a_mks a_mr a_cnt a_wd a_one a_two a_mmade a_mrest a_old H.size v_thrown v_mask v_key v_wait v_problem v_code v_length v_cond v_masks v_addr v_mwanted u_155 v_after v_calls v_oneB v_twoB v_mkF r_21 1 0) (cwV 3 hts (gd_V wd_857 wd_858 wd_859 wd_807 wd_837) rfl rfl rfl hdX12_look ⟨Nat.le_of_ble_eq_true rfl, Nat.le_of_ble_eq_true rfl⟩) (preV_std (ci := 12) (q0 := 0) hPc hK hDc hNW rfl rfl) rfl rfl hl.1 rfl (lv_room (Nat.le_of_ble_eq_true rfl)) dX12_stored_163 ⟨Nat.zero_le _, Nat.zero_le _⟩) hS (fun q _ h => hFc q h) hFc (fun u_163 t9 H1 locs ht9 hvm9 hw9 hB9 hz9 hk9 hS => ?_)
                    have eu_163 : u_163 = fX12_look r_21 1 0 v_key u_155 v_mkF := hw9
                    obtain ⟨hP, hD⟩ := back_std (w1 := (wX12_look cI cB a_mo a_mem a_mks a_mr a_cnt a_wd a_one a_two a_mmade a_mrest a_old v_thrown v_mask v_key v_wait v_problem v_code v_length v_cond v_masks v_addr v_mwanted u_163 v_after v_calls v_oneB v_twoB v_mkF)) (w2 := (wX12_stored cI cB a_mo a_mem a_mks a_mr a_cnt a_wd a_one a_two a_mmade a_mrest a_old v_thrown v_mask v_key v_wait v_problem v_code v_length v_cond v_masks v_addr v_mwanted u_163 v_after v_calls v_oneB v_twoB v_mF v_mkF v_mrF v_wdF)) (wr := [(a_mem, .inl (cI, 8192, .inl v_mF)), (a_mr, .inl (cI, 16, .inl v_mrF)), (a_wd, .inl (cI, 6, .inl v_wdF))]) hP hD [0, 2] [1, 3, 4] [3, 0, 4, 1, 2] rfl rfl (by decide) (by decide) hk9 hFc hB9 ht9 (by decide) rfl
                    clear hB9 hk9 hz9 hvm9 ht9 hFc hPc hDc
                    generalize H1 = H at hP hS ⊢
                    refine lv_aload_n hx hb dX12_stored_166 rfl (lv_at hl 3 rfl) ?_
                    refine lv_aload_n hx hb dX12_stored_167 rfl (lv_at hl 3 rfl) ?_
                    refine va_get (D := D) (ci := 12) (v := .int u_163) (C := RX12) (T := TX12) (N := 26) hx hb hts in_X12 hown hK hP 0 rfl rfl 16 (by decide) q_1 (fun _ h9 => h9) rfl dX12_stored_168 ?_
                    have J_188 : ∀ (m_188 : Int32), m_188 = (if u_163 ≤ 0 then ((v_mF (r_21 : Int32).toNatClampNeg)) else (v_mask)) → ∀ (H : Heap) (locs : List Loc), va_P D vwCl (wX12_stored cI cB a_mo a_mem a_mks a_mr a_cnt a_wd a_one a_two a_mmade a_mrest a_old v_thrown v_mask v_key v_wait v_problem v_code v_length v_cond v_masks v_addr v_mwanted u_163 v_after v_calls v_oneB v_twoB v_mF v_mkF v_mrF v_wdF) H → va_D A (wX12_stored cI cB a_mo a_mem a_mks a_mr a_cnt a_wd a_one a_two a_mmade a_mrest a_old v_thrown v_mask v_key v_wait v_problem v_code v_length v_cond v_masks v_addr v_mwanted u_163 v_after v_calls v_oneB v_twoB v_mF v_mkF v_mrF v_wdF) → va_S A s.heap H locs → ∀ (ls : Array Slot), lv_has ls 5 [(0, .ref a_mo), (1, .int x0), (2, .int x_8), (3, .int x_18), (4, .int r_21)] → W p l e rmX12_stored s m ([.ref a_mo, .int x0] : List Value).toArray below meth c H locs 0 0 (MQ below (qX12_stored D cI cB a_mo a_mem a_mks a_mr a_cnt a_wd a_one a_two a_mmade a_mrest a_old v_thrown v_mask v_key v_wait v_problem v_code v_length v_cond v_masks v_addr v_mwanted v_wrong v_after v_calls v_oneB v_twoB v_mF v_mkF v_mrF v_wdF x0 A) ([.ref a_mo, .int x0] : List Value).toArray s 0 0 A) (F0 m 188 ls [.int m_188, .ref a_mo]) := by
                      intro m_188 em_188 H locs hP hD hS ls hl
                      try dsimp only at em_188
                      refine va_put (D := D) (ci := 12) (v := .int m_188) (ty := .int) (C := RX12) (T := TX12) (N := 26) hx hb hts in_X12 tyX12 tyX12_ok nmX12 hown hK hP hD hS 0 rfl rfl 4 (by decide) q_3 (fun _ h9 => h9) rfl (by decide +kernel) rfl rfl (Nat.le_of_ble_eq_true rfl) dX12_stored_188 (fun H locs hP hD hS => ?_)
                      have hP : va_P D vwCl (wX12_stored cI cB a_mo a_mem a_mks a_mr a_cnt a_wd a_one a_two a_mmade a_mrest a_old v_thrown m_188 v_key v_wait v_problem v_code v_length v_cond v_masks v_addr v_mwanted u_163 v_after v_calls v_oneB v_twoB v_mF v_mkF v_mrF v_wdF) H := hP
                      have hD : va_D A (wX12_stored cI cB a_mo a_mem a_mks a_mr a_cnt a_wd a_one a_two a_mmade a_mrest a_old v_thrown m_188 v_key v_wait v_problem v_code v_length v_cond v_masks v_addr v_mwanted u_163 v_after v_calls v_oneB v_twoB v_mF v_mkF v_mrF v_wdF) := hD
                      refine lv_goto (tgt := 249) hx hb dX12_stored_191 (by decide) ?_
                      have hf9 : (m_188, v_key, v_wait, v_problem, v_code, v_length, v_cond, v_masks, v_addr, u_163, v_after, v_mF, v_mrF) = fX12_stored x0 v_mask v_key v_wait v_problem v_code v_length v_cond v_masks v_addr v_wrong v_after v_mF v_mkF v_mrF v_wdF := by subst ex_18; subst ex_8; simp only [fX12_stored, ← er_21, ← eu_155, ← eu_163, ← em_188]; (try simp only [if_neg c_30, if_pos c_37, if_neg c_58, if_neg c_65, if_neg c_84, if_neg c_91, if_neg c_121, if_pos c_128, if_pos c_151])
                      exact W.vret hx hb hr (fun t9 ht9 hW9 => ⟨⟨(m_188, v_key, v_wait, v_problem, v_code, v_length, v_cond, v_masks, v_addr, u_163, v_after, v_mF, v_mrF), rfl, hf9, ⟨by rw [ht9]; exact hP, va_K.moved hW9.alike hK, hD⟩⟩, hS.F ht9⟩) hS.2.2 dX12_stored_249
                    refine lv_if_le (tgt := 181) hx hb dX12_stored_171 (by decide) (fun c_171 => ?_) (fun c_171 => ?_)
                    · skip
                      refine lv_aload_n hx hb dX12_stored_181 rfl (lv_at hl 3 rfl) ?_
                      refine va_get (D := D) (ci := 12) (v := .ref a_mem) (C := RX12) (T := TX12) (N := 26) hx hb hts in_X12 hown hK hP 0 rfl rfl 1 (by decide) q_2 (fun _ h9 => h9) rfl dX12_stored_182 ?_
                      refine lv_iload hx hb dX12_stored_185 (lv_at hl 0 rfl) ?_
                      refine va_iald hx hb hK hP 1 0 rfl rfl (lk_in ha (by rw [eu_155]; exact sup_nn hw) eu_163 c_171) dX12_stored_187 ?_
                      exact J_188 (v_mF (r_21 : Int32).toNatClampNeg) (by (try simp only [if_pos c_171])) _ _ hP hD hS ls (lv_sub hl [3, 4, 2, 1, 0] rfl)
                    · skip
                      refine lv_aload_n hx hb dX12_stored_174 rfl (lv_at hl 3 rfl) ?_
                      refine va_get (D := D) (ci := 12) (v := .int v_mask) (C := RX12) (T := TX12) (N := 26) hx hb hts in_X12 hown hK hP 0 rfl rfl 4 (by decide) q_3 (fun _ h9 => h9) rfl dX12_stored_175 ?_
                      refine lv_goto (tgt := 188) hx hb dX12_stored_178 (by decide) ?_
                      exact J_188 v_mask (by (try simp only [if_neg c_171])) _ _ hP hD hS ls (lv_sub hl [3, 4, 2, 1, 0] rfl)
                · skip
                  refine lv_aload_n hx hb dX12_stored_131 rfl (lv_at hl 3 rfl) ?_
                  refine lv_iload_n hx hb dX12_stored_132 rfl (lv_at hl 4 rfl) ?_
                  refine lv_aload_n hx hb dX12_stored_133 rfl (lv_at hl 3 rfl) ?_
                  refine va_get (D := D) (ci := 12) (v := .ref a_wd) (C := RX12) (T := TX12) (N := 26) hx hb hts in_X12 hown hK hP 0 rfl rfl 15 (by decide) q_0 (fun _ h9 => h9) rfl dX12_stored_134 ?_
                  refine lv_iconst (v := 1) hx hb dX12_stored_137 (by decide) ?_
                  refine va_iald hx hb hK hP 4 0 rfl rfl (by unfold vp_in; decide) dX12_stored_138 ?_
                  refine lv_iload hx hb dX12_stored_139 (lv_at hl 0 rfl) ?_
                  have hPc : va_P D vwCl (wX12_withByte cI cB a_mo a_mem a_mks a_mr a_cnt a_wd a_one a_two a_mmade a_mrest a_old v_thrown v_mask v_key v_wait v_problem v_code v_length v_cond v_masks v_addr v_mwanted v_wrong v_after v_calls v_oneB v_twoB v_mF v_mkF) H := hP.sub [0, 1, 2] rfl
                  have hDc : va_D A (wX12_withByte cI cB a_mo a_mem a_mks a_mr a_cnt a_wd a_one a_two a_mmade a_mrest a_old v_thrown v_mask v_key v_wait v_problem v_code v_length v_cond v_masks v_addr v_mwanted v_wrong v_after v_calls v_oneB v_twoB v_mF v_mkF) := hD.sub [0, 1, 2] (by decide) rfl
                  have hFc := va_free (wc := (wX12_withByte cI cB a_mo a_mem a_mks a_mr a_cnt a_wd a_one a_two a_mmade a_mrest a_old v_thrown v_mask v_key v_wait v_problem v_code v_length v_cond v_masks v_addr v_mwanted v_wrong v_after v_calls v_oneB v_twoB v_mF v_mkF)) hD hS hA [0, 1, 2] rfl
                  refine va_callv (va_runV (As := [.int x0, .int ((v_wdF (1 : Int32).toNatClampNeg)), .int r_21]) (rest := []) ⟨hx, hb, hml, hown, hts⟩ (kX12_withByte l D cI cB a_mo a_mem a_mks a_mr a_cnt a_wd a_one a_two a_mmade a_mrest a_old H.size v_thrown v_mask v_key v_wait v_problem v_code v_length v_cond v_masks v_addr v_mwanted v_wrong v_after v_calls v_oneB v_twoB v_mF v_mkF x0 (v_wdF (1 : Int32).toNatClampNeg) r_21 (by first | with_reducible assumption | decide | (unfold vp_in; decide)) (by first | with_reducible assumption | decide | (unfold vp_in; decide))) (cwV 3 hts (gd_V wd_968 wd_969 wd_970 wd_807 wd_958) rfl rfl rfl hdX12_withByte ⟨Nat.le_of_ble_eq_true rfl, Nat.le_of_ble_eq_true rfl⟩) (preV_std (ci := 12) (q0 := 0) hPc hK hDc hNW rfl rfl) rfl rfl hl.1 rfl (lv_room (Nat.le_of_ble_eq_true rfl)) dX12_stored_141 ⟨Nat.zero_le _, Nat.zero_le _⟩) hS (fun q _ h => hFc q h) hFc (fun u_141 t9 H1 locs ht9 hvm9 hw9 hB9 hz9 hk9 hS => ?_)
                  have eu_141 : u_141 = fX12_withByte x0 (v_wdF (1 : Int32).toNatClampNeg) r_21 v_key v_cond v_wrong v_mF v_mkF := hw9
                  obtain ⟨hP, hD⟩ := back_std (w1 := (wX12_withByte cI cB a_mo a_mem a_mks a_mr a_cnt a_wd a_one a_two a_mmade a_mrest a_old v_thrown v_mask v_key v_wait v_problem v_code v_length u_141.1 v_masks v_addr v_mwanted u_141.2.1 v_after v_calls v_oneB v_twoB u_141.2.2 v_mkF)) (w2 := (wX12_stored cI cB a_mo a_mem a_mks a_mr a_cnt a_wd a_one a_two a_mmade a_mrest a_old v_thrown v_mask v_key v_wait v_problem v_code v_length u_141.1 v_masks v_addr v_mwanted u_141.2.1 v_after v_calls v_oneB v_twoB u_141.2.2 v_mkF v_mrF v_wdF)) (wr := [(a_mr, .inl (cI, 16, .inl v_mrF)), (a_wd, .inl (cI, 6, .inl v_wdF))]) hP hD [0, 1, 2] [3, 4] [2, 3, 4, 0, 1] rfl rfl (by decide) (by decide) hk9 hFc hB9 ht9 (by decide) rfl
                  clear hB9 hk9 hz9 hvm9 ht9 hFc hPc hDc
                  generalize H1 = H at hP hS ⊢
                  refine lv_goto (tgt := 249) hx hb dX12_stored_144 (by decide) ?_
                  have hf9 : (v_mask, v_key, v_wait, v_problem, v_code, v_length, u_141.1, v_masks, v_addr, u_141.2.1, v_after, u_141.2.2, v_mrF) = fX12_stored x0 v_mask v_key v_wait v_problem v_code v_length v_cond v_masks v_addr v_wrong v_after v_mF v_mkF v_mrF v_wdF := by subst ex_18; subst ex_8; simp only [fX12_stored, ← er_21, ← eu_141]; (try simp only [if_neg c_30, if_pos c_37, if_neg c_58, if_neg c_65, if_neg c_84, if_neg c_91, if_neg c_121, if_neg c_128])
                  exact W.vret hx hb hr (fun t9 ht9 hW9 => ⟨⟨(v_mask, v_key, v_wait, v_problem, v_code, v_length, u_141.1, v_masks, v_addr, u_141.2.1, v_after, u_141.2.2, v_mrF), rfl, hf9, ⟨by rw [ht9]; exact hP, va_K.moved hW9.alike hK, hD⟩⟩, hS.F ht9⟩) hS.2.2 dX12_stored_249
            · skip
              refine lv_aload_n hx hb dX12_stored_94 rfl (lv_at hl 3 rfl) ?_
              refine lv_iload_n hx hb dX12_stored_95 rfl (lv_at hl 2 rfl) ?_
              refine lv_iload_n hx hb dX12_stored_96 rfl (lv_at hl 1 rfl) ?_
              refine lv_iload hx hb dX12_stored_97 (lv_at hl 0 rfl) ?_
              refine lv_iload_n hx hb dX12_stored_99 rfl (lv_at hl 4 rfl) ?_
              refine lv_sipush (v := 144) hx hb dX12_stored_100 (by decide) ?_
              refine lv_icmp_ne (tgt := 110) hx hb dX12_stored_103 (by decide) (fun c_103 => ?_) (fun c_103 => ?_)
              · skip
                refine lv_iconst (v := 0) hx hb dX12_stored_110 (by decide) ?_
                have hPc : va_P D vwCl (wX12_many cI cB a_mo a_mem a_mks a_mr a_cnt a_wd a_one a_two a_mmade a_mrest a_old v_thrown v_mask v_key v_wait v_problem v_code v_length v_cond v_masks v_addr v_mwanted v_wrong v_after v_calls v_oneB v_twoB v_mF v_mkF v_mrF) H := hP.sub [0, 1, 2, 3] rfl
                have hDc : va_D A (wX12_many cI cB a_mo a_mem a_mks a_mr a_cnt a_wd a_one a_two a_mmade a_mrest a_old v_thrown v_mask v_key v_wait v_problem v_code v_length v_cond v_masks v_addr v_mwanted v_wrong v_after v_calls v_oneB v_twoB v_mF v_mkF v_mrF) := hD.sub [0, 1, 2, 3] (by decide) rfl
                have hFc := va_free (wc := (wX12_many cI cB a_mo a_mem a_mks a_mr a_cnt a_wd a_one a_two a_mmade a_mrest a_old v_thrown v_mask v_key v_wait v_problem v_code v_length v_cond v_masks v_addr v_mwanted v_wrong v_after v_calls v_oneB v_twoB v_mF v_mkF v_mrF)) hD hS hA [0, 1, 2, 3] rfl
                refine va_callv (va_runV (As := [.int x_8, .int x_18, .int r_21, .int 0]) (rest := []) ⟨hx, hb, hml, hown, hts⟩ (kX12_many l D cI cB a_mo a_mem a_mks a_mr a_cnt a_wd a_one a_two a_mmade a_mrest a_old H.size v_thrown v_mask v_key v_wait v_problem v_code v_length v_cond v_masks v_addr v_mwanted v_wrong v_after v_calls v_oneB v_twoB v_mF v_mkF v_mrF x_8 x_18 r_21 0 (by first | with_reducible assumption | decide | (unfold vp_in; decide)) (by first | with_reducible assumption | decide | (unfold vp_in; decide))) (cwV 4 hts (gd_V wd_965 wd_966 wd_967 wd_807 wd_957) rfl rfl rfl hdX12_many ⟨Nat.le_of_ble_eq_true rfl, Nat.le_of_ble_eq_true rfl⟩) (preV_std (ci := 12) (q0 := 0) hPc hK hDc hNW rfl rfl) rfl rfl hl.1 rfl (lv_room (Nat.le_of_ble_eq_true rfl)) dX12_stored_111 ⟨Nat.zero_le _, Nat.zero_le _⟩) hS (fun q _ h => hFc q h) hFc (fun u_111 t9 H1 locs ht9 hvm9 hw9 hB9 hz9 hk9 hS => ?_)
                have eu_111 : u_111 = fX12_many x_8 x_18 r_21 0 v_key v_wrong v_mF v_mkF v_mrF := hw9
                obtain ⟨hP, hD⟩ := back_std (w1 := (wX12_many cI cB a_mo a_mem a_mks a_mr a_cnt a_wd a_one a_two a_mmade a_mrest a_old v_thrown v_mask v_key v_wait v_problem v_code v_length v_cond v_masks v_addr v_mwanted u_111.1 v_after v_calls v_oneB v_twoB u_111.2.1 v_mkF u_111.2.2)) (w2 := (wX12_stored cI cB a_mo a_mem a_mks a_mr a_cnt a_wd a_one a_two a_mmade a_mrest a_old v_thrown v_mask v_key v_wait v_problem v_code v_length v_cond v_masks v_addr v_mwanted u_111.1 v_after v_calls v_oneB v_twoB u_111.2.1 v_mkF u_111.2.2 v_wdF)) (wr := [(a_wd, .inl (cI, 6, .inl v_wdF))]) hP hD [0, 1, 2, 3] [4] [1, 2, 3, 4, 0] rfl rfl (by decide) (by decide) hk9 hFc hB9 ht9 (by decide) rfl
                clear hB9 hk9 hz9 hvm9 ht9 hFc hPc hDc
                generalize H1 = H at hP hS ⊢
                refine lv_goto (tgt := 249) hx hb dX12_stored_114 (by decide) ?_
                have hf9 : (v_mask, v_key, v_wait, v_problem, v_code, v_length, v_cond, v_masks, v_addr, u_111.1, v_after, u_111.2.1, u_111.2.2) = fX12_stored x0 v_mask v_key v_wait v_problem v_code v_length v_cond v_masks v_addr v_wrong v_after v_mF v_mkF v_mrF v_wdF := by subst ex_18; subst ex_8; simp only [fX12_stored, ← er_21, ← eu_111]; (try simp only [if_neg c_30, if_pos c_37, if_neg c_58, if_neg c_65, if_neg c_84, if_pos c_91])
                exact W.vret hx hb hr (fun t9 ht9 hW9 => ⟨⟨(v_mask, v_key, v_wait, v_problem, v_code, v_length, v_cond, v_masks, v_addr, u_111.1, v_after, u_111.2.1, u_111.2.2), rfl, hf9, ⟨by rw [ht9]; exact hP, va_K.moved hW9.alike hK, hD⟩⟩, hS.F ht9⟩) hS.2.2 dX12_stored_249
              · skip
                exact absurd c_103 c_84
        · skip
          refine lv_aload_n hx hb dX12_stored_68 rfl (lv_at hl 3 rfl) ?_
          refine lv_iload_n hx hb dX12_stored_69 rfl (lv_at hl 4 rfl) ?_
          refine lv_iload_n hx hb dX12_stored_70 rfl (lv_at hl 2 rfl) ?_
          refine lv_iload_n hx hb dX12_stored_71 rfl (lv_at hl 1 rfl) ?_
          refine lv_iload hx hb dX12_stored_72 (lv_at hl 0 rfl) ?_
          have hPc : va_P D vwCl (wX12_loop cI cB a_mo a_mem a_mks a_mr a_cnt a_wd a_one a_two a_mmade a_mrest a_old v_thrown v_mask v_key v_wait v_problem v_code v_length v_cond v_masks v_addr v_mwanted v_wrong v_after v_calls v_oneB v_twoB v_mrF) H := hP.sub [0, 3] rfl
          have hDc : va_D A (wX12_loop cI cB a_mo a_mem a_mks a_mr a_cnt a_wd a_one a_two a_mmade a_mrest a_old v_thrown v_mask v_key v_wait v_problem v_code v_length v_cond v_masks v_addr v_mwanted v_wrong v_after v_calls v_oneB v_twoB v_mrF) := hD.sub [0, 3] (by decide) rfl
          have hFc := va_free (wc := (wX12_loop cI cB a_mo a_mem a_mks a_mr a_cnt a_wd a_one a_two a_mmade a_mrest a_old v_thrown v_mask v_key v_wait v_problem v_code v_length v_cond v_masks v_addr v_mwanted v_wrong v_after v_calls v_oneB v_twoB v_mrF)) hD hS hA [0, 3] rfl
          refine va_callv (va_runV (As := [.int x0, .int x_8, .int x_18, .int r_21]) (rest := []) ⟨hx, hb, hml, hown, hts⟩ (kX12_loop l D cI cB a_mo a_mem a_mks a_mr a_cnt a_wd a_one a_two a_mmade a_mrest a_old H.size v_thrown v_mask v_key v_wait v_problem v_code v_length v_cond v_masks v_addr v_mwanted v_wrong v_after v_calls v_oneB v_twoB v_mrF x0 x_8 x_18 r_21 (by first | with_reducible assumption | decide | (unfold vp_in; decide)) (by first | with_reducible assumption | decide | (unfold vp_in; decide))) (cwV 4 hts (gd_V wd_962 wd_963 wd_964 wd_807 wd_956) rfl rfl rfl hdX12_loop ⟨Nat.le_of_ble_eq_true rfl, Nat.le_of_ble_eq_true rfl⟩) (preV_std (ci := 12) (q0 := 0) hPc hK hDc hNW rfl rfl) rfl rfl hl.1 rfl (lv_room (Nat.le_of_ble_eq_true rfl)) dX12_stored_74 ⟨Nat.zero_le _, Nat.zero_le _⟩) hS (fun q _ h => hFc q h) hFc (fun u_74 t9 H1 locs ht9 hvm9 hw9 hB9 hz9 hk9 hS => ?_)
          have eu_74 : u_74 = fX12_loop x0 x_8 x_18 r_21 v_addr v_mrF := hw9
          obtain ⟨hP, hD⟩ := back_std (w1 := (wX12_loop cI cB a_mo a_mem a_mks a_mr a_cnt a_wd a_one a_two a_mmade a_mrest a_old v_thrown v_mask v_key v_wait v_problem v_code v_length v_cond v_masks u_74.1 v_mwanted v_wrong v_after v_calls v_oneB v_twoB u_74.2)) (w2 := (wX12_stored cI cB a_mo a_mem a_mks a_mr a_cnt a_wd a_one a_two a_mmade a_mrest a_old v_thrown v_mask v_key v_wait v_problem v_code v_length v_cond v_masks u_74.1 v_mwanted v_wrong v_after v_calls v_oneB v_twoB v_mF v_mkF u_74.2 v_wdF)) (wr := [(a_mem, .inl (cI, 8192, .inl v_mF)), (a_mks, .inl (cI, 4, .inl v_mkF)), (a_wd, .inl (cI, 6, .inl v_wdF))]) hP hD [0, 3] [1, 2, 4] [3, 0, 1, 4, 2] rfl rfl (by decide) (by decide) hk9 hFc hB9 ht9 (by decide) rfl
          clear hB9 hk9 hz9 hvm9 ht9 hFc hPc hDc
          generalize H1 = H at hP hS ⊢
          refine lv_goto (tgt := 249) hx hb dX12_stored_77 (by decide) ?_
          have hf9 : (v_mask, v_key, v_wait, v_problem, v_code, v_length, v_cond, v_masks, u_74.1, v_wrong, v_after, v_mF, u_74.2) = fX12_stored x0 v_mask v_key v_wait v_problem v_code v_length v_cond v_masks v_addr v_wrong v_after v_mF v_mkF v_mrF v_wdF := by subst ex_18; subst ex_8; simp only [fX12_stored, ← er_21, ← eu_74]; (try simp only [if_neg c_30, if_pos c_37, if_neg c_58, if_pos c_65])
          exact W.vret hx hb hr (fun t9 ht9 hW9 => ⟨⟨(v_mask, v_key, v_wait, v_problem, v_code, v_length, v_cond, v_masks, u_74.1, v_wrong, v_after, v_mF, u_74.2), rfl, hf9, ⟨by rw [ht9]; exact hP, va_K.moved hW9.alike hK, hD⟩⟩, hS.F ht9⟩) hS.2.2 dX12_stored_249
    · skip
      refine lv_aload_n hx hb dX12_stored_40 rfl (lv_at hl 3 rfl) ?_
      refine lv_iload_n hx hb dX12_stored_41 rfl (lv_at hl 4 rfl) ?_
      refine lv_iload_n hx hb dX12_stored_42 rfl (lv_at hl 2 rfl) ?_
      refine lv_iload hx hb dX12_stored_43 (lv_at hl 0 rfl) ?_
      refine lv_bipush (v := 63) hx hb dX12_stored_45 (by decide) ?_
      refine lv_iand hx hb dX12_stored_47 ?_
      have hPc : va_P D vwCl (wX12_shift cI cB a_mo a_mem a_mks a_mr a_cnt a_wd a_one a_two a_mmade a_mrest a_old v_thrown v_mask v_key v_wait v_problem v_code v_length v_cond v_masks v_addr v_mwanted v_wrong v_after v_calls v_oneB v_twoB v_mrF) H := hP.sub [0, 3] rfl
      have hDc : va_D A (wX12_shift cI cB a_mo a_mem a_mks a_mr a_cnt a_wd a_one a_two a_mmade a_mrest a_old v_thrown v_mask v_key v_wait v_problem v_code v_length v_cond v_masks v_addr v_mwanted v_wrong v_after v_calls v_oneB v_twoB v_mrF) := hD.sub [0, 3] (by decide) rfl
      have hFc := va_free (wc := (wX12_shift cI cB a_mo a_mem a_mks a_mr a_cnt a_wd a_one a_two a_mmade a_mrest a_old v_thrown v_mask v_key v_wait v_problem v_code v_length v_cond v_masks v_addr v_mwanted v_wrong v_after v_calls v_oneB v_twoB v_mrF)) hD hS hA [0, 3] rfl
      refine va_callv (va_runV (As := [.int x0, .int x_8, .int (r_21 &&& 63)]) (rest := []) ⟨hx, hb, hml, hown, hts⟩ (kX12_shift l D cI cB a_mo a_mem a_mks a_mr a_cnt a_wd a_one a_two a_mmade a_mrest a_old H.size v_thrown v_mask v_key v_wait v_problem v_code v_length v_cond v_masks v_addr v_mwanted v_wrong v_after v_calls v_oneB v_twoB v_mrF x0 x_8 (r_21 &&& 63) (by first | with_reducible assumption | decide | (unfold vp_in; decide)) (by first | with_reducible assumption | decide | (unfold vp_in; decide))) (cwV 3 hts (gd_V wd_959 wd_960 wd_961 wd_807 wd_955) rfl rfl rfl hdX12_shift ⟨Nat.le_of_ble_eq_true rfl, Nat.le_of_ble_eq_true rfl⟩) (preV_std (ci := 12) (q0 := 0) hPc hK hDc hNW rfl rfl) rfl rfl hl.1 rfl (lv_room (Nat.le_of_ble_eq_true rfl)) dX12_stored_48 ⟨Nat.zero_le _, Nat.zero_le _⟩) hS (fun q _ h => hFc q h) hFc (fun u_48 t9 H1 locs ht9 hvm9 hw9 hB9 hz9 hk9 hS => ?_)
      have eu_48 : u_48 = fX12_shift x0 x_8 (r_21 &&& 63) v_cond v_masks v_wrong v_after v_mrF := hw9
      obtain ⟨hP, hD⟩ := back_std (w1 := (wX12_shift cI cB a_mo a_mem a_mks a_mr a_cnt a_wd a_one a_two a_mmade a_mrest a_old v_thrown v_mask v_key v_wait v_problem v_code v_length u_48.1 v_masks v_addr v_mwanted u_48.2.1 u_48.2.2.1 v_calls v_oneB v_twoB u_48.2.2.2)) (w2 := (wX12_stored cI cB a_mo a_mem a_mks a_mr a_cnt a_wd a_one a_two a_mmade a_mrest a_old v_thrown v_mask v_key v_wait v_problem v_code v_length u_48.1 v_masks v_addr v_mwanted u_48.2.1 u_48.2.2.1 v_calls v_oneB v_twoB v_mF v_mkF u_48.2.2.2 v_wdF)) (wr := [(a_mem, .inl (cI, 8192, .inl v_mF)), (a_mks, .inl (cI, 4, .inl v_mkF)), (a_wd, .inl (cI, 6, .inl v_wdF))]) hP hD [0, 3] [1, 2, 4] [3, 0, 1, 4, 2] rfl rfl (by decide) (by decide) hk9 hFc hB9 ht9 (by decide) rfl
      clear hB9 hk9 hz9 hvm9 ht9 hFc hPc hDc
      generalize H1 = H at hP hS ⊢
      refine lv_goto (tgt := 249) hx hb dX12_stored_51 (by decide) ?_
      have hf9 : (v_mask, v_key, v_wait, v_problem, v_code, v_length, u_48.1, v_masks, v_addr, u_48.2.1, u_48.2.2.1, v_mF, u_48.2.2.2) = fX12_stored x0 v_mask v_key v_wait v_problem v_code v_length v_cond v_masks v_addr v_wrong v_after v_mF v_mkF v_mrF v_wdF := by subst ex_18; subst ex_8; simp only [fX12_stored, ← er_21, ← eu_48]; (try simp only [if_neg c_30, if_neg c_37])
      exact W.vret hx hb hr (fun t9 ht9 hW9 => ⟨⟨(v_mask, v_key, v_wait, v_problem, v_code, v_length, u_48.1, v_masks, v_addr, u_48.2.1, u_48.2.2.1, v_mF, u_48.2.2.2), rfl, hf9, ⟨by rw [ht9]; exact hP, va_K.moved hW9.alike hK, hD⟩⟩, hS.F ht9⟩) hS.2.2 dX12_stored_249
theorem hdX12_stored : yX12_stored.cls = RX12 ∧ yX12_stored.cls ≠ "java/lang/invoke/MethodHandle" ∧ yX12_stored.cls ≠ "java/lang/invoke/VarHandle" ∧ (parseMethodDescriptor yX12_stored.desc).map (fun d => d.parameters.length) = some 1 := by decide +kernel
noncomputable def fX12_mixed (x0 : Int32) (x1 : Int32) (x2 : Int32) : Int32 :=
  if x0 = 209 then (((x1 &&& 240) ||| (x2 &&& 15))) else (if x0 = 210 then (x2) else (if x0 = 211 then (((x1 &&& 15) ||| (x2 &&& 240))) else (if x0 = 212 then ((x1 &&& x2)) else (if x0 = 214 then ((x1 ||| x2)) else ((x1 ^^^ x2))))))
abbrev wX12_mixed (cI cB : ClassId) : va_W := []
abbrev rmX12_mixed : Room := { frames := 0, cells := 0, slots := 0, locals := 0 }
abbrev qX12_mixed (D : va_G) (cI cB : ClassId) (x0 : Int32) (x1 : Int32) (x2 : Int32) : (Nat → Prop) → Array Value → State → Outcome → State → Prop := fun A9 => va_Qi (fun (r9 : Int32) (u9 : Unit) => r9 = fX12_mixed x0 x1 x2) (fun u9 t9 => atW D (TYS cI cB) A9 (wX12_mixed cI cB  ) t9) A9
set_option maxHeartbeats 4000000 in
set_option maxRecDepth 100000 in
theorem kX12_mixed (l : Launch) (D : va_G) (cI cB : ClassId) (sz : Nat) (x0 : Int32) (x1 : Int32) (x2 : Int32) : MetW l yX12_mixed (WK yX12_mixed cX12_mixed 3 (some .int)) rmX12_mixed D (TYS cI cB) (wX12_mixed cI cB  ) sz [.int x0, .int x1, .int x2] (qX12_mixed D cI cB  x0 x1 x2) 0 0 := by
  refine met_std (by decide) rfl (Nat.le_of_ble_eq_true rfl) ?_
  intro p e s m below meth c A ls H hx hb hr hml hown hts hlocks hA hP hK hD hS hNW hl
  have hl : lv_has ls 3 [(0, .int x0), (1, .int x1), (2, .int x2)] := hl
  generalize ([] : List Loc) = locs at hS ⊢
  refine lv_iload_n hx hb dX12_mixed_0 rfl (lv_at hl 0 rfl) ?_
  by_cases c_1_0 : x0 = 209
  · skip
    refine lv_tableIn (tgt := 40) (off := 39) hx hb dX12_mixed_1 (by rw [c_1_0]; decide) (by rw [c_1_0]; decide) (by rw [c_1_0]; rfl) (by decide) ?_
    refine lv_iload_n hx hb dX12_mixed_40 rfl (lv_at hl 1 rfl) ?_
    refine lv_sipush (v := 240) hx hb dX12_mixed_41 (by decide) ?_
    refine lv_iand hx hb dX12_mixed_44 ?_
    refine lv_iload_n hx hb dX12_mixed_45 rfl (lv_at hl 2 rfl) ?_
    refine lv_bipush (v := 15) hx hb dX12_mixed_46 (by decide) ?_
    refine lv_iand hx hb dX12_mixed_48 ?_
    refine lv_ior hx hb dX12_mixed_49 ?_
    have hf9 : ((x1 &&& 240) ||| (x2 &&& 15)) = fX12_mixed x0 x1 x2 := by simp only [fX12_mixed]; (try simp only [if_pos c_1_0])
    exact W.iret hx hb hr (fun t9 ht9 hW9 => ⟨⟨((x1 &&& 240) ||| (x2 &&& 15)), (), rfl, hf9, ⟨by rw [ht9]; exact hP, va_K.moved hW9.alike hK, hD⟩⟩, hS.F ht9⟩) hS.2.2 dX12_mixed_50
  · skip
    by_cases c_1_1 : x0 = 210
    · skip
      refine lv_tableIn (tgt := 51) (off := 50) hx hb dX12_mixed_1 (by rw [c_1_1]; decide) (by rw [c_1_1]; decide) (by rw [c_1_1]; rfl) (by decide) ?_
      refine lv_iload_n hx hb dX12_mixed_51 rfl (lv_at hl 2 rfl) ?_
      have hf9 : x2 = fX12_mixed x0 x1 x2 := by simp only [fX12_mixed]; (try simp only [if_neg c_1_0, if_pos c_1_1])
      exact W.iret hx hb hr (fun t9 ht9 hW9 => ⟨⟨x2, (), rfl, hf9, ⟨by rw [ht9]; exact hP, va_K.moved hW9.alike hK, hD⟩⟩, hS.F ht9⟩) hS.2.2 dX12_mixed_52
    · skip
      by_cases c_1_2 : x0 = 211
      · skip
        refine lv_tableIn (tgt := 53) (off := 52) hx hb dX12_mixed_1 (by rw [c_1_2]; decide) (by rw [c_1_2]; decide) (by rw [c_1_2]; rfl) (by decide) ?_
        refine lv_iload_n hx hb dX12_mixed_53 rfl (lv_at hl 1 rfl) ?_
        refine lv_bipush (v := 15) hx hb dX12_mixed_54 (by decide) ?_
        refine lv_iand hx hb dX12_mixed_56 ?_
        refine lv_iload_n hx hb dX12_mixed_57 rfl (lv_at hl 2 rfl) ?_
        refine lv_sipush (v := 240) hx hb dX12_mixed_58 (by decide) ?_
        refine lv_iand hx hb dX12_mixed_61 ?_
        refine lv_ior hx hb dX12_mixed_62 ?_
        have hf9 : ((x1 &&& 15) ||| (x2 &&& 240)) = fX12_mixed x0 x1 x2 := by simp only [fX12_mixed]; (try simp only [if_neg c_1_0, if_neg c_1_1, if_pos c_1_2])
        exact W.iret hx hb hr (fun t9 ht9 hW9 => ⟨⟨((x1 &&& 15) ||| (x2 &&& 240)), (), rfl, hf9, ⟨by rw [ht9]; exact hP, va_K.moved hW9.alike hK, hD⟩⟩, hS.F ht9⟩) hS.2.2 dX12_mixed_63
      · skip
        by_cases c_1_3 : x0 = 212
        · skip
          refine lv_tableIn (tgt := 64) (off := 63) hx hb dX12_mixed_1 (by rw [c_1_3]; decide) (by rw [c_1_3]; decide) (by rw [c_1_3]; rfl) (by decide) ?_
          refine lv_iload_n hx hb dX12_mixed_64 rfl (lv_at hl 1 rfl) ?_
          refine lv_iload_n hx hb dX12_mixed_65 rfl (lv_at hl 2 rfl) ?_
          refine lv_iand hx hb dX12_mixed_66 ?_
          have hf9 : (x1 &&& x2) = fX12_mixed x0 x1 x2 := by simp only [fX12_mixed]; (try simp only [if_neg c_1_0, if_neg c_1_1, if_neg c_1_2, if_pos c_1_3])
          exact W.iret hx hb hr (fun t9 ht9 hW9 => ⟨⟨(x1 &&& x2), (), rfl, hf9, ⟨by rw [ht9]; exact hP, va_K.moved hW9.alike hK, hD⟩⟩, hS.F ht9⟩) hS.2.2 dX12_mixed_67
        · skip
          by_cases c_1_4 : x0 = 214
          · skip
            refine lv_tableIn (tgt := 68) (off := 67) hx hb dX12_mixed_1 (by rw [c_1_4]; decide) (by rw [c_1_4]; decide) (by rw [c_1_4]; rfl) (by decide) ?_
            refine lv_iload_n hx hb dX12_mixed_68 rfl (lv_at hl 1 rfl) ?_
            refine lv_iload_n hx hb dX12_mixed_69 rfl (lv_at hl 2 rfl) ?_
            refine lv_ior hx hb dX12_mixed_70 ?_
            have hf9 : (x1 ||| x2) = fX12_mixed x0 x1 x2 := by simp only [fX12_mixed]; (try simp only [if_neg c_1_0, if_neg c_1_1, if_neg c_1_2, if_neg c_1_3, if_pos c_1_4])
            exact W.iret hx hb hr (fun t9 ht9 hW9 => ⟨⟨(x1 ||| x2), (), rfl, hf9, ⟨by rw [ht9]; exact hP, va_K.moved hW9.alike hK, hD⟩⟩, hS.F ht9⟩) hS.2.2 dX12_mixed_71
          · skip
            refine sw_def (tgt := 72) hx hb [209, 210, 211, 212, 214] dX12_mixed_1 (by decide) (by decide) ?_ (by decide) ?_
            · intro v hv he
              simp only [List.mem_cons, List.not_mem_nil, or_false] at hv
              have hx9 : x0 = Int32.ofInt v := by rw [← he, Int32.ofInt_toInt]
              revert hx9
              rcases hv with rfl | rfl | rfl | rfl | rfl <;> intro hx9 <;> first | exact c_1_0 (by rw [hx9]; decide) | exact c_1_1 (by rw [hx9]; decide) | exact c_1_2 (by rw [hx9]; decide) | exact c_1_3 (by rw [hx9]; decide) | exact c_1_4 (by rw [hx9]; decide)
            · skip
              refine lv_iload_n hx hb dX12_mixed_72 rfl (lv_at hl 1 rfl) ?_
              refine lv_iload_n hx hb dX12_mixed_73 rfl (lv_at hl 2 rfl) ?_
              refine lv_ixor hx hb dX12_mixed_74 ?_
              have hf9 : (x1 ^^^ x2) = fX12_mixed x0 x1 x2 := by simp only [fX12_mixed]; (try simp only [if_neg c_1_0, if_neg c_1_1, if_neg c_1_2, if_neg c_1_3, if_neg c_1_4])
              exact W.iret hx hb hr (fun t9 ht9 hW9 => ⟨⟨(x1 ^^^ x2), (), rfl, hf9, ⟨by rw [ht9]; exact hP, va_K.moved hW9.alike hK, hD⟩⟩, hS.F ht9⟩) hS.2.2 dX12_mixed_75
theorem hdX12_mixed : yX12_mixed.cls = RX12 ∧ yX12_mixed.cls ≠ "java/lang/invoke/MethodHandle" ∧ yX12_mixed.cls ≠ "java/lang/invoke/VarHandle" ∧ (parseMethodDescriptor yX12_mixed.desc).map (fun d => d.parameters.length) = some 3 := by decide +kernel
noncomputable def LX12_rows_103 (x0 : Int32) (x1 : Int32) (x2 : Int32) (x3 : Int32) : Nat → ((Nat → Int32) × Int32 × Int32) → ((Nat → Int32) × Int32 × Int32)
  | 0, w_103 => w_103
  | n9 + 1, w_103 =>
    if x1 ≤ w_103.2.2 then ((w_103.1, w_103.2.1, w_103.2.2)) else (let r_137 := fX12_mixed x0 (w_103.1 ((x2 + w_103.2.2) : Int32).toNatClampNeg) (w_103.1 ((x3 + w_103.2.2) : Int32).toNatClampNeg); let f_140 := upd w_103.1 ((x2 + w_103.2.2) : Int32).toNatClampNeg (r_137); let m_163 : Int32 := (if w_103.2.1 = 0 then (if (f_140 ((x2 + w_103.2.2) : Int32).toNatClampNeg) = 0 then (0) else (1)) else (1)); let x_165 := w_103.2.2 + 1; LX12_rows_103 x0 x1 x2 x3 n9 (f_140, m_163, x_165))
noncomputable def LX12_rows_49 (x1 : Int32) (x2 : Int32) (x3 : Int32) (v_mF : (Nat → Int32)) : Nat → (Int32 × Int32) → (Int32 × Int32)
  | 0, w_49 => w_49
  | n9 + 1, w_49 =>
    if x1 ≤ w_49.2 then ((w_49.1, w_49.2)) else (if w_49.1 = 0 then (let r_84 := fX12_byOrder (((v_mF ((x2 + w_49.2) : Int32).toNatClampNeg) : Int32).toInt64) (((v_mF ((x3 + w_49.2) : Int32).toNatClampNeg) : Int32).toInt64); let x_90 := w_49.2 + 1; LX12_rows_49 x1 x2 x3 v_mF n9 (r_84, x_90)) else ((w_49.1, w_49.2)))
noncomputable def fX12_rows (x0 : Int32) (x1 : Int32) (x2 : Int32) (x3 : Int32) (v_key : Int32) (v_cond : Int32) (v_wrong : Int32) (v_mF : (Nat → Int32)) (v_mkF : (Nat → Int32)) : (Int32 × Int32 × (Nat → Int32)) :=
  let m_15 : Int32 := (if x0 = 213 then (0) else (1))
  let u_15 := fX12_look x2 x1 m_15 v_key v_wrong v_mkF
  let u_23 := fX12_look x3 x1 0 v_key u_15 v_mkF
  if u_23 ≤ 0 then (if x0 = 213 then (let g_49 := LX12_rows_49 x1 x2 x3 v_mF (msU x1 0 + 1) (0, 0); (g_49.1, u_23, v_mF)) else (let g_103 := LX12_rows_103 x0 x1 x2 x3 (msU x1 0 + 1) (v_mF, 0, 0); if x0 = 212 then (let m_203 : Int32 := (if g_103.2.1 = 0 then (0) else (1)); (m_203, u_23, g_103.1)) else (if x0 = 214 then (let m_203 : Int32 := (if g_103.2.1 = 0 then (0) else (1)); (m_203, u_23, g_103.1)) else (if x0 = 215 then (let m_203 : Int32 := (if g_103.2.1 = 0 then (0) else (1)); (m_203, u_23, g_103.1)) else ((v_cond, u_23, g_103.1)))))) else ((v_cond, u_23, v_mF))
abbrev wX12_rows (cI cB : ClassId) (a_mo a_mem a_mks a_mr a_cnt a_wd a_one a_two a_mmade a_mrest a_old : Nat) (v_thrown : Int32) (v_mask : Int32) (v_key : Int32) (v_wait : Int32) (v_problem : Int32) (v_code : Int32) (v_length : Int32) (v_cond : Int32) (v_masks : Int32) (v_addr : Int32) (v_mwanted : Int32) (v_wrong : Int32) (v_after : Int32) (v_calls : Int32) (v_oneB : Int32) (v_twoB : Int32) (v_mF : (Nat → Int32)) (v_mkF : (Nat → Int32)) : va_W := [(a_mo, .inr (12, [.int v_thrown, .ref a_mem, .ref a_mks, .ref a_mr, .int v_mask, .int v_key, .int v_wait, .int v_problem, .int v_code, .int v_length, .int v_cond, .int v_masks, .int v_addr, .int v_mwanted, .ref a_cnt, .ref a_wd, .int v_wrong, .int v_after, .int v_calls, .ref a_one, .int v_oneB, .ref a_two, .int v_twoB, .ref a_mmade, .ref a_mrest, .ref a_old])), (a_mem, .inl (cI, 8192, .inl v_mF)), (a_mks, .inl (cI, 4, .inl v_mkF))]
abbrev rmX12_rows : Room := { frames := 2, cells := 0, slots := 0, locals := 48 }
abbrev qX12_rows (D : va_G) (cI cB : ClassId) (a_mo a_mem a_mks a_mr a_cnt a_wd a_one a_two a_mmade a_mrest a_old : Nat) (v_thrown : Int32) (v_mask : Int32) (v_key : Int32) (v_wait : Int32) (v_problem : Int32) (v_code : Int32) (v_length : Int32) (v_cond : Int32) (v_masks : Int32) (v_addr : Int32) (v_mwanted : Int32) (v_wrong : Int32) (v_after : Int32) (v_calls : Int32) (v_oneB : Int32) (v_twoB : Int32) (v_mF : (Nat → Int32)) (v_mkF : (Nat → Int32)) (x0 : Int32) (x1 : Int32) (x2 : Int32) (x3 : Int32) : (Nat → Prop) → Array Value → State → Outcome → State → Prop := fun A9 => va_Qv (fun (u9 : (Int32 × Int32 × (Nat → Int32))) => u9 = fX12_rows x0 x1 x2 x3 v_key v_cond v_wrong v_mF v_mkF) (fun u9 t9 => atW D (TYS cI cB) A9 (wX12_rows cI cB a_mo a_mem a_mks a_mr a_cnt a_wd a_one a_two a_mmade a_mrest a_old v_thrown v_mask v_key v_wait v_problem v_code v_length u9.1 v_masks v_addr v_mwanted u9.2.1 v_after v_calls v_oneB v_twoB u9.2.2 v_mkF) t9) A9
set_option maxHeartbeats 4000000 in
set_option maxRecDepth 100000 in
theorem kX12_rows (l : Launch) (D : va_G) (cI cB : ClassId) (a_mo a_mem a_mks a_mr a_cnt a_wd a_one a_two a_mmade a_mrest a_old : Nat) (sz : Nat) (v_thrown : Int32) (v_mask : Int32) (v_key : Int32) (v_wait : Int32) (v_problem : Int32) (v_code : Int32) (v_length : Int32) (v_cond : Int32) (v_masks : Int32) (v_addr : Int32) (v_mwanted : Int32) (v_wrong : Int32) (v_after : Int32) (v_calls : Int32) (v_oneB : Int32) (v_twoB : Int32) (v_mF : (Nat → Int32)) (v_mkF : (Nat → Int32)) (x0 : Int32) (x1 : Int32) (x2 : Int32) (x3 : Int32) (hn : 1 ≤ x1.toInt ∧ x1.toInt ≤ 256) (ha : in24 x2) (hb9 : in24 x3) (hw : 0 ≤ v_wrong) : MetW l yX12_rows (WK yX12_rows cX12_rows 7 none) rmX12_rows D (TYS cI cB) (wX12_rows cI cB a_mo a_mem a_mks a_mr a_cnt a_wd a_one a_two a_mmade a_mrest a_old v_thrown v_mask v_key v_wait v_problem v_code v_length v_cond v_masks v_addr v_mwanted v_wrong v_after v_calls v_oneB v_twoB v_mF v_mkF) sz [.ref a_mo, .int x0, .int x1, .int x2, .int x3] (qX12_rows D cI cB a_mo a_mem a_mks a_mr a_cnt a_wd a_one a_two a_mmade a_mrest a_old v_thrown v_mask v_key v_wait v_problem v_code v_length v_cond v_masks v_addr v_mwanted v_wrong v_after v_calls v_oneB v_twoB v_mF v_mkF x0 x1 x2 x3) 0 0 := by
  refine met_std (by decide) rfl (Nat.le_of_ble_eq_true rfl) ?_
  intro p e s m below meth c A ls H hx hb hr hml hown hts hlocks hA hP hK hD hS hNW hl
  have hl : lv_has ls 7 [(0, .ref a_mo), (1, .int x0), (2, .int x1), (3, .int x2), (4, .int x3)] := hl
  have q_0 := hts _ (List.mem_cons_of_mem _ wd_836)
  have q_1 := hts _ (List.mem_cons_of_mem _ wd_777)
  have q_2 := hts _ (List.mem_cons_of_mem _ wd_792)
  refine lv_aload_n hx hb dX12_rows_0 rfl (lv_at hl 0 rfl) ?_
  refine lv_iload_n hx hb dX12_rows_1 rfl (lv_at hl 3 rfl) ?_
  refine lv_iload_n hx hb dX12_rows_2 rfl (lv_at hl 2 rfl) ?_
  refine lv_iload_n hx hb dX12_rows_3 rfl (lv_at hl 1 rfl) ?_
  refine lv_sipush (v := 213) hx hb dX12_rows_4 (by decide) ?_
  have J_15 : ∀ (m_15 : Int32), m_15 = (if x0 = 213 then (0) else (1)) → ∀ (H : Heap) (locs : List Loc), va_P D vwCl (wX12_rows cI cB a_mo a_mem a_mks a_mr a_cnt a_wd a_one a_two a_mmade a_mrest a_old v_thrown v_mask v_key v_wait v_problem v_code v_length v_cond v_masks v_addr v_mwanted v_wrong v_after v_calls v_oneB v_twoB v_mF v_mkF) H → va_D A (wX12_rows cI cB a_mo a_mem a_mks a_mr a_cnt a_wd a_one a_two a_mmade a_mrest a_old v_thrown v_mask v_key v_wait v_problem v_code v_length v_cond v_masks v_addr v_mwanted v_wrong v_after v_calls v_oneB v_twoB v_mF v_mkF) → va_S A s.heap H locs → ∀ (ls : Array Slot), lv_has ls 7 [(0, .ref a_mo), (1, .int x0), (2, .int x1), (3, .int x2), (4, .int x3)] → W p l e rmX12_rows s m ([.ref a_mo, .int x0, .int x1, .int x2, .int x3] : List Value).toArray below meth c H locs 0 0 (MQ below (qX12_rows D cI cB a_mo a_mem a_mks a_mr a_cnt a_wd a_one a_two a_mmade a_mrest a_old v_thrown v_mask v_key v_wait v_problem v_code v_length v_cond v_masks v_addr v_mwanted v_wrong v_after v_calls v_oneB v_twoB v_mF v_mkF x0 x1 x2 x3 A) ([.ref a_mo, .int x0, .int x1, .int x2, .int x3] : List Value).toArray s 0 0 A) (F0 m 15 ls [.int m_15, .int x1, .int x2, .ref a_mo]) := by
    intro m_15 em_15 H locs hP hD hS ls hl
    try dsimp only at em_15
    have zm_15_0 : m_15 = 0 ∨ m_15 = 1 := by rw [em_15]; (try dsimp only); (repeat' split) <;> first | exact Or.inl rfl | exact Or.inr rfl
    have hPc : va_P D vwCl (wX12_look cI cB a_mo a_mem a_mks a_mr a_cnt a_wd a_one a_two a_mmade a_mrest a_old v_thrown v_mask v_key v_wait v_problem v_code v_length v_cond v_masks v_addr v_mwanted v_wrong v_after v_calls v_oneB v_twoB v_mkF) H := hP.sub [0, 2] rfl
    have hDc : va_D A (wX12_look cI cB a_mo a_mem a_mks a_mr a_cnt a_wd a_one a_two a_mmade a_mrest a_old v_thrown v_mask v_key v_wait v_problem v_code v_length v_cond v_masks v_addr v_mwanted v_wrong v_after v_calls v_oneB v_twoB v_mkF) := hD.sub [0, 2] (by decide) rfl
    have hFc := va_free (wc := (wX12_look cI cB a_mo a_mem a_mks a_mr a_cnt a_wd a_one a_two a_mmade a_mrest a_old v_thrown v_mask v_key v_wait v_problem v_code v_length v_cond v_masks v_addr v_mwanted v_wrong v_after v_calls v_oneB v_twoB v_mkF)) hD hS hA [0, 2] rfl
    refine va_callv (va_runV (As := [.int x2, .int x1, .int m_15]) (rest := []) ⟨hx, hb, hml, hown, hts⟩ (kX12_look l D cI cB a_mo a_mem a_mks a_mr a_cnt a_wd a_one a_two a_mmade a_mrest a_old H.size v_thrown v_mask v_key v_wait v_problem v_code v_length v_cond v_masks v_addr v_mwanted v_wrong v_after v_calls v_oneB v_twoB v_mkF x2 x1 m_15) (cwV 3 hts (gd_V wd_857 wd_858 wd_859 wd_807 wd_837) rfl rfl rfl hdX12_look ⟨Nat.le_of_ble_eq_true rfl, Nat.le_of_ble_eq_true rfl⟩) (preV_std (ci := 12) (q0 := 0) hPc hK hDc hNW rfl rfl) rfl rfl hl.1 rfl (lv_room (Nat.le_of_ble_eq_true rfl)) dX12_rows_15 ⟨Nat.zero_le _, Nat.zero_le _⟩) hS (fun q _ h => hFc q h) hFc (fun u_15 t9 H1 locs ht9 hvm9 hw9 hB9 hz9 hk9 hS => ?_)
    have eu_15 : u_15 = fX12_look x2 x1 m_15 v_key v_wrong v_mkF := hw9
    obtain ⟨hP, hD⟩ := back_std (w1 := (wX12_look cI cB a_mo a_mem a_mks a_mr a_cnt a_wd a_one a_two a_mmade a_mrest a_old v_thrown v_mask v_key v_wait v_problem v_code v_length v_cond v_masks v_addr v_mwanted u_15 v_after v_calls v_oneB v_twoB v_mkF)) (w2 := (wX12_rows cI cB a_mo a_mem a_mks a_mr a_cnt a_wd a_one a_two a_mmade a_mrest a_old v_thrown v_mask v_key v_wait v_problem v_code v_length v_cond v_masks v_addr v_mwanted u_15 v_after v_calls v_oneB v_twoB v_mF v_mkF)) (wr := [(a_mem, .inl (cI, 8192, .inl v_mF))]) hP hD [0, 2] [1] [1, 0, 2] rfl rfl (by decide) (by decide) hk9 hFc hB9 ht9 (by decide) rfl
    clear hB9 hk9 hz9 hvm9 ht9 hFc hPc hDc
    generalize H1 = H at hP hS ⊢
    refine lv_aload_n hx hb dX12_rows_18 rfl (lv_at hl 0 rfl) ?_
    refine lv_iload hx hb dX12_rows_19 (lv_at hl 4 rfl) ?_
    refine lv_iload_n hx hb dX12_rows_21 rfl (lv_at hl 2 rfl) ?_
    refine lv_iconst (v := 0) hx hb dX12_rows_22 (by decide) ?_
    have hPc : va_P D vwCl (wX12_look cI cB a_mo a_mem a_mks a_mr a_cnt a_wd a_one a_two a_mmade a_mrest a_old v_thrown v_mask v_key v_wait v_problem v_code v_length v_cond v_masks v_addr v_mwanted u_15 v_after v_calls v_oneB v_twoB v_mkF) H := hP.sub [0, 2] rfl
    have hDc : va_D A (wX12_look cI cB a_mo a_mem a_mks a_mr a_cnt a_wd a_one a_two a_mmade a_mrest a_old v_thrown v_mask v_key v_wait v_problem v_code v_length v_cond v_masks v_addr v_mwanted u_15 v_after v_calls v_oneB v_twoB v_mkF) := hD.sub [0, 2] (by decide) rfl
    have hFc := va_free (wc := (wX12_look cI cB a_mo a_mem a_mks a_mr a_cnt a_wd a_one a_two a_mmade a_mrest a_old v_thrown v_mask v_key v_wait v_problem v_code v_length v_cond v_masks v_addr v_mwanted u_15 v_after v_calls v_oneB v_twoB v_mkF)) hD hS hA [0, 2] rfl
    refine va_callv (va_runV (As := [.int x3, .int x1, .int 0]) (rest := []) ⟨hx, hb, hml, hown, hts⟩ (kX12_look l D cI cB a_mo a_mem a_mks a_mr a_cnt a_wd a_one a_two a_mmade a_mrest a_old H.size v_thrown v_mask v_key v_wait v_problem v_code v_length v_cond v_masks v_addr v_mwanted u_15 v_after v_calls v_oneB v_twoB v_mkF x3 x1 0) (cwV 3 hts (gd_V wd_857 wd_858 wd_859 wd_807 wd_837) rfl rfl rfl hdX12_look ⟨Nat.le_of_ble_eq_true rfl, Nat.le_of_ble_eq_true rfl⟩) (preV_std (ci := 12) (q0 := 0) hPc hK hDc hNW rfl rfl) rfl rfl hl.1 rfl (lv_room (Nat.le_of_ble_eq_true rfl)) dX12_rows_23 ⟨Nat.zero_le _, Nat.zero_le _⟩) hS (fun q _ h => hFc q h) hFc (fun u_23 t9 H1 locs ht9 hvm9 hw9 hB9 hz9 hk9 hS => ?_)
    have eu_23 : u_23 = fX12_look x3 x1 0 v_key u_15 v_mkF := hw9
    obtain ⟨hP, hD⟩ := back_std (w1 := (wX12_look cI cB a_mo a_mem a_mks a_mr a_cnt a_wd a_one a_two a_mmade a_mrest a_old v_thrown v_mask v_key v_wait v_problem v_code v_length v_cond v_masks v_addr v_mwanted u_23 v_after v_calls v_oneB v_twoB v_mkF)) (w2 := (wX12_rows cI cB a_mo a_mem a_mks a_mr a_cnt a_wd a_one a_two a_mmade a_mrest a_old v_thrown v_mask v_key v_wait v_problem v_code v_length v_cond v_masks v_addr v_mwanted u_23 v_after v_calls v_oneB v_twoB v_mF v_mkF)) (wr := [(a_mem, .inl (cI, 8192, .inl v_mF))]) hP hD [0, 2] [1] [1, 0, 2] rfl rfl (by decide) (by decide) hk9 hFc hB9 ht9 (by decide) rfl
    clear hB9 hk9 hz9 hvm9 ht9 hFc hPc hDc
    generalize H1 = H at hP hS ⊢
    refine lv_aload_n hx hb dX12_rows_26 rfl (lv_at hl 0 rfl) ?_
    refine va_get (D := D) (ci := 12) (v := .int u_23) (C := RX12) (T := TX12) (N := 26) hx hb hts in_X12 hown hK hP 0 rfl rfl 16 (by decide) q_0 (fun _ h9 => h9) rfl dX12_rows_27 ?_
    refine lv_if_le (tgt := 34) hx hb dX12_rows_30 (by decide) (fun c_30 => ?_) (fun c_30 => ?_)
    · skip
      have hAB := lk2 ha hb9 hn hn hw eu_15 eu_23 c_30
      refine lv_iload_n hx hb dX12_rows_34 rfl (lv_at hl 1 rfl) ?_
      refine lv_sipush (v := 213) hx hb dX12_rows_35 (by decide) ?_
      refine lv_icmp_ne (tgt := 97) hx hb dX12_rows_38 (by decide) (fun c_38 => ?_) (fun c_38 => ?_)
      · skip
        refine lv_iconst (v := 0) hx hb dX12_rows_97 (by decide) ?_
        refine lv_istore (lv' := [(5, .int 0), (0, .ref a_mo), (1, .int x0), (2, .int x1), (3, .int x2), (4, .int x3)]) hx hb dX12_rows_98 hl (by decide) rfl (fun ls hl => ?_)
        refine lv_iconst (v := 0) hx hb dX12_rows_100 (by decide) ?_
        refine lv_istore (lv' := [(6, .int 0), (5, .int 0), (0, .ref a_mo), (1, .int x0), (2, .int x1), (3, .int x2), (4, .int x3)]) hx hb dX12_rows_101 hl (by decide) rfl (fun ls hl => ?_)
        obtain ⟨g_103, eg_103⟩ : ∃ z : ((Nat → Int32) × Int32 × Int32), z = LX12_rows_103 x0 x1 x2 x3 (msU x1 0 + 1) (v_mF, 0, 0) := ⟨_, rfl⟩
        have K_103_0 : ∀ (H : Heap) (locs : List Loc), va_P D vwCl (wX12_rows cI cB a_mo a_mem a_mks a_mr a_cnt a_wd a_one a_two a_mmade a_mrest a_old v_thrown v_mask v_key v_wait v_problem v_code v_length v_cond v_masks v_addr v_mwanted u_23 v_after v_calls v_oneB v_twoB g_103.1 v_mkF) H → va_D A (wX12_rows cI cB a_mo a_mem a_mks a_mr a_cnt a_wd a_one a_two a_mmade a_mrest a_old v_thrown v_mask v_key v_wait v_problem v_code v_length v_cond v_masks v_addr v_mwanted u_23 v_after v_calls v_oneB v_twoB g_103.1 v_mkF) → va_S A s.heap H locs → ∀ (ls : Array Slot), lv_has ls 7 [(0, .ref a_mo), (1, .int x0), (2, .int x1), (3, .int x2), (4, .int x3), (5, .int g_103.2.1), (6, .int g_103.2.2)] → W p l e rmX12_rows s m ([.ref a_mo, .int x0, .int x1, .int x2, .int x3] : List Value).toArray below meth c H locs 0 0 (MQ below (qX12_rows D cI cB a_mo a_mem a_mks a_mr a_cnt a_wd a_one a_two a_mmade a_mrest a_old v_thrown v_mask v_key v_wait v_problem v_code v_length v_cond v_masks v_addr v_mwanted v_wrong v_after v_calls v_oneB v_twoB v_mF v_mkF x0 x1 x2 x3 A) ([.ref a_mo, .int x0, .int x1, .int x2, .int x3] : List Value).toArray s 0 0 A) (F0 m 171 ls []) := by
          intro H locs hP hD hS ls hl
          refine lv_iload_n hx hb dX12_rows_171 rfl (lv_at hl 1 rfl) ?_
          refine lv_sipush (v := 212) hx hb dX12_rows_172 (by decide) ?_
          refine lv_icmp_eq (tgt := 192) hx hb dX12_rows_175 (by decide) (fun c_175 => ?_) (fun c_175 => ?_)
          · skip
            refine lv_aload_n hx hb dX12_rows_192 rfl (lv_at hl 0 rfl) ?_
            refine lv_iload hx hb dX12_rows_193 (lv_at hl 5 rfl) ?_
            have J_203 : ∀ (m_203 : Int32), m_203 = (if g_103.2.1 = 0 then (0) else (1)) → ∀ (H : Heap) (locs : List Loc), va_P D vwCl (wX12_rows cI cB a_mo a_mem a_mks a_mr a_cnt a_wd a_one a_two a_mmade a_mrest a_old v_thrown v_mask v_key v_wait v_problem v_code v_length v_cond v_masks v_addr v_mwanted u_23 v_after v_calls v_oneB v_twoB g_103.1 v_mkF) H → va_D A (wX12_rows cI cB a_mo a_mem a_mks a_mr a_cnt a_wd a_one a_two a_mmade a_mrest a_old v_thrown v_mask v_key v_wait v_problem v_code v_length v_cond v_masks v_addr v_mwanted u_23 v_after v_calls v_oneB v_twoB g_103.1 v_mkF) → va_S A s.heap H locs → ∀ (ls : Array Slot), lv_has ls 7 [(0, .ref a_mo), (1, .int x0), (2, .int x1), (3, .int x2), (4, .int x3), (5, .int g_103.2.1), (6, .int g_103.2.2)] → W p l e rmX12_rows s m ([.ref a_mo, .int x0, .int x1, .int x2, .int x3] : List Value).toArray below meth c H locs 0 0 (MQ below (qX12_rows D cI cB a_mo a_mem a_mks a_mr a_cnt a_wd a_one a_two a_mmade a_mrest a_old v_thrown v_mask v_key v_wait v_problem v_code v_length v_cond v_masks v_addr v_mwanted v_wrong v_after v_calls v_oneB v_twoB v_mF v_mkF x0 x1 x2 x3 A) ([.ref a_mo, .int x0, .int x1, .int x2, .int x3] : List Value).toArray s 0 0 A) (F0 m 203 ls [.int m_203, .ref a_mo]) := by
              intro m_203 em_203 H locs hP hD hS ls hl
              try dsimp only at em_203
              have zm_203_0 : m_203 = 0 ∨ m_203 = 1 := by rw [em_203]; (try dsimp only); (repeat' split) <;> first | exact Or.inl rfl | exact Or.inr rfl
              refine va_put (D := D) (ci := 12) (v := .int m_203) (ty := .int) (C := RX12) (T := TX12) (N := 26) hx hb hts in_X12 tyX12 tyX12_ok nmX12 hown hK hP hD hS 0 rfl rfl 10 (by decide) q_2 (fun _ h9 => h9) rfl (by decide +kernel) rfl rfl (Nat.le_of_ble_eq_true rfl) dX12_rows_203 (fun H locs hP hD hS => ?_)
              have hP : va_P D vwCl (wX12_rows cI cB a_mo a_mem a_mks a_mr a_cnt a_wd a_one a_two a_mmade a_mrest a_old v_thrown v_mask v_key v_wait v_problem v_code v_length m_203 v_masks v_addr v_mwanted u_23 v_after v_calls v_oneB v_twoB g_103.1 v_mkF) H := hP
              have hD : va_D A (wX12_rows cI cB a_mo a_mem a_mks a_mr a_cnt a_wd a_one a_two a_mmade a_mrest a_old v_thrown v_mask v_key v_wait v_problem v_code v_length m_203 v_masks v_addr v_mwanted u_23 v_after v_calls v_oneB v_twoB g_103.1 v_mkF) := hD
              have hf9 : (m_203, u_23, g_103.1) = fX12_rows x0 x1 x2 x3 v_key v_cond v_wrong v_mF v_mkF := by simp only [fX12_rows, ← em_15, ← eu_15, ← eu_23, ← eg_103, ← em_203]; (try simp only [if_pos c_30, if_neg c_38, if_pos c_175])
              exact W.vret hx hb hr (fun t9 ht9 hW9 => ⟨⟨(m_203, u_23, g_103.1), rfl, hf9, ⟨by rw [ht9]; exact hP, va_K.moved hW9.alike hK, hD⟩⟩, hS.F ht9⟩) hS.2.2 dX12_rows_206
            refine lv_if_eq (tgt := 202) hx hb dX12_rows_195 (by decide) (fun c_195 => ?_) (fun c_195 => ?_)
            · skip
              refine lv_iconst (v := 0) hx hb dX12_rows_202 (by decide) ?_
              exact J_203 0 (by (try simp only [if_pos c_195])) _ _ hP hD hS ls (lv_sub hl [0, 1, 2, 3, 4, 5, 6] rfl)
            · skip
              refine lv_iconst (v := 1) hx hb dX12_rows_198 (by decide) ?_
              refine lv_goto (tgt := 203) hx hb dX12_rows_199 (by decide) ?_
              exact J_203 1 (by (try simp only [if_neg c_195])) _ _ hP hD hS ls (lv_sub hl [0, 1, 2, 3, 4, 5, 6] rfl)
          · skip
            refine lv_iload_n hx hb dX12_rows_178 rfl (lv_at hl 1 rfl) ?_
            refine lv_sipush (v := 214) hx hb dX12_rows_179 (by decide) ?_
            refine lv_icmp_eq (tgt := 192) hx hb dX12_rows_182 (by decide) (fun c_182 => ?_) (fun c_182 => ?_)
            · skip
              refine lv_aload_n hx hb dX12_rows_192 rfl (lv_at hl 0 rfl) ?_
              refine lv_iload hx hb dX12_rows_193 (lv_at hl 5 rfl) ?_
              have J_203 : ∀ (m_203 : Int32), m_203 = (if g_103.2.1 = 0 then (0) else (1)) → ∀ (H : Heap) (locs : List Loc), va_P D vwCl (wX12_rows cI cB a_mo a_mem a_mks a_mr a_cnt a_wd a_one a_two a_mmade a_mrest a_old v_thrown v_mask v_key v_wait v_problem v_code v_length v_cond v_masks v_addr v_mwanted u_23 v_after v_calls v_oneB v_twoB g_103.1 v_mkF) H → va_D A (wX12_rows cI cB a_mo a_mem a_mks a_mr a_cnt a_wd a_one a_two a_mmade a_mrest a_old v_thrown v_mask v_key v_wait v_problem v_code v_length v_cond v_masks v_addr v_mwanted u_23 v_after v_calls v_oneB v_twoB g_103.1 v_mkF) → va_S A s.heap H locs → ∀ (ls : Array Slot), lv_has ls 7 [(0, .ref a_mo), (1, .int x0), (2, .int x1), (3, .int x2), (4, .int x3), (5, .int g_103.2.1), (6, .int g_103.2.2)] → W p l e rmX12_rows s m ([.ref a_mo, .int x0, .int x1, .int x2, .int x3] : List Value).toArray below meth c H locs 0 0 (MQ below (qX12_rows D cI cB a_mo a_mem a_mks a_mr a_cnt a_wd a_one a_two a_mmade a_mrest a_old v_thrown v_mask v_key v_wait v_problem v_code v_length v_cond v_masks v_addr v_mwanted v_wrong v_after v_calls v_oneB v_twoB v_mF v_mkF x0 x1 x2 x3 A) ([.ref a_mo, .int x0, .int x1, .int x2, .int x3] : List Value).toArray s 0 0 A) (F0 m 203 ls [.int m_203, .ref a_mo]) := by
                intro m_203 em_203 H locs hP hD hS ls hl
                try dsimp only at em_203
                have zm_203_0 : m_203 = 0 ∨ m_203 = 1 := by rw [em_203]; (try dsimp only); (repeat' split) <;> first | exact Or.inl rfl | exact Or.inr rfl
                refine va_put (D := D) (ci := 12) (v := .int m_203) (ty := .int) (C := RX12) (T := TX12) (N := 26) hx hb hts in_X12 tyX12 tyX12_ok nmX12 hown hK hP hD hS 0 rfl rfl 10 (by decide) q_2 (fun _ h9 => h9) rfl (by decide +kernel) rfl rfl (Nat.le_of_ble_eq_true rfl) dX12_rows_203 (fun H locs hP hD hS => ?_)
                have hP : va_P D vwCl (wX12_rows cI cB a_mo a_mem a_mks a_mr a_cnt a_wd a_one a_two a_mmade a_mrest a_old v_thrown v_mask v_key v_wait v_problem v_code v_length m_203 v_masks v_addr v_mwanted u_23 v_after v_calls v_oneB v_twoB g_103.1 v_mkF) H := hP
                have hD : va_D A (wX12_rows cI cB a_mo a_mem a_mks a_mr a_cnt a_wd a_one a_two a_mmade a_mrest a_old v_thrown v_mask v_key v_wait v_problem v_code v_length m_203 v_masks v_addr v_mwanted u_23 v_after v_calls v_oneB v_twoB g_103.1 v_mkF) := hD
                have hf9 : (m_203, u_23, g_103.1) = fX12_rows x0 x1 x2 x3 v_key v_cond v_wrong v_mF v_mkF := by simp only [fX12_rows, ← em_15, ← eu_15, ← eu_23, ← eg_103, ← em_203]; (try simp only [if_pos c_30, if_neg c_38, if_neg c_175, if_pos c_182])
                exact W.vret hx hb hr (fun t9 ht9 hW9 => ⟨⟨(m_203, u_23, g_103.1), rfl, hf9, ⟨by rw [ht9]; exact hP, va_K.moved hW9.alike hK, hD⟩⟩, hS.F ht9⟩) hS.2.2 dX12_rows_206
              refine lv_if_eq (tgt := 202) hx hb dX12_rows_195 (by decide) (fun c_195 => ?_) (fun c_195 => ?_)
              · skip
                refine lv_iconst (v := 0) hx hb dX12_rows_202 (by decide) ?_
                exact J_203 0 (by (try simp only [if_pos c_195])) _ _ hP hD hS ls (lv_sub hl [0, 1, 2, 3, 4, 5, 6] rfl)
              · skip
                refine lv_iconst (v := 1) hx hb dX12_rows_198 (by decide) ?_
                refine lv_goto (tgt := 203) hx hb dX12_rows_199 (by decide) ?_
                exact J_203 1 (by (try simp only [if_neg c_195])) _ _ hP hD hS ls (lv_sub hl [0, 1, 2, 3, 4, 5, 6] rfl)
            · skip
              refine lv_iload_n hx hb dX12_rows_185 rfl (lv_at hl 1 rfl) ?_
              refine lv_sipush (v := 215) hx hb dX12_rows_186 (by decide) ?_
              refine lv_icmp_ne (tgt := 206) hx hb dX12_rows_189 (by decide) (fun c_189 => ?_) (fun c_189 => ?_)
              · skip
                have hf9 : (v_cond, u_23, g_103.1) = fX12_rows x0 x1 x2 x3 v_key v_cond v_wrong v_mF v_mkF := by simp only [fX12_rows, ← em_15, ← eu_15, ← eu_23, ← eg_103]; (try simp only [if_pos c_30, if_neg c_38, if_neg c_175, if_neg c_182, if_neg c_189])
                exact W.vret hx hb hr (fun t9 ht9 hW9 => ⟨⟨(v_cond, u_23, g_103.1), rfl, hf9, ⟨by rw [ht9]; exact hP, va_K.moved hW9.alike hK, hD⟩⟩, hS.F ht9⟩) hS.2.2 dX12_rows_206
              · skip
                refine lv_aload_n hx hb dX12_rows_192 rfl (lv_at hl 0 rfl) ?_
                refine lv_iload hx hb dX12_rows_193 (lv_at hl 5 rfl) ?_
                have J_203 : ∀ (m_203 : Int32), m_203 = (if g_103.2.1 = 0 then (0) else (1)) → ∀ (H : Heap) (locs : List Loc), va_P D vwCl (wX12_rows cI cB a_mo a_mem a_mks a_mr a_cnt a_wd a_one a_two a_mmade a_mrest a_old v_thrown v_mask v_key v_wait v_problem v_code v_length v_cond v_masks v_addr v_mwanted u_23 v_after v_calls v_oneB v_twoB g_103.1 v_mkF) H → va_D A (wX12_rows cI cB a_mo a_mem a_mks a_mr a_cnt a_wd a_one a_two a_mmade a_mrest a_old v_thrown v_mask v_key v_wait v_problem v_code v_length v_cond v_masks v_addr v_mwanted u_23 v_after v_calls v_oneB v_twoB g_103.1 v_mkF) → va_S A s.heap H locs → ∀ (ls : Array Slot), lv_has ls 7 [(0, .ref a_mo), (1, .int x0), (2, .int x1), (3, .int x2), (4, .int x3), (5, .int g_103.2.1), (6, .int g_103.2.2)] → W p l e rmX12_rows s m ([.ref a_mo, .int x0, .int x1, .int x2, .int x3] : List Value).toArray below meth c H locs 0 0 (MQ below (qX12_rows D cI cB a_mo a_mem a_mks a_mr a_cnt a_wd a_one a_two a_mmade a_mrest a_old v_thrown v_mask v_key v_wait v_problem v_code v_length v_cond v_masks v_addr v_mwanted v_wrong v_after v_calls v_oneB v_twoB v_mF v_mkF x0 x1 x2 x3 A) ([.ref a_mo, .int x0, .int x1, .int x2, .int x3] : List Value).toArray s 0 0 A) (F0 m 203 ls [.int m_203, .ref a_mo]) := by
                  intro m_203 em_203 H locs hP hD hS ls hl
                  try dsimp only at em_203
                  have zm_203_0 : m_203 = 0 ∨ m_203 = 1 := by rw [em_203]; (try dsimp only); (repeat' split) <;> first | exact Or.inl rfl | exact Or.inr rfl
                  refine va_put (D := D) (ci := 12) (v := .int m_203) (ty := .int) (C := RX12) (T := TX12) (N := 26) hx hb hts in_X12 tyX12 tyX12_ok nmX12 hown hK hP hD hS 0 rfl rfl 10 (by decide) q_2 (fun _ h9 => h9) rfl (by decide +kernel) rfl rfl (Nat.le_of_ble_eq_true rfl) dX12_rows_203 (fun H locs hP hD hS => ?_)
                  have hP : va_P D vwCl (wX12_rows cI cB a_mo a_mem a_mks a_mr a_cnt a_wd a_one a_two a_mmade a_mrest a_old v_thrown v_mask v_key v_wait v_problem v_code v_length m_203 v_masks v_addr v_mwanted u_23 v_after v_calls v_oneB v_twoB g_103.1 v_mkF) H := hP
                  have hD : va_D A (wX12_rows cI cB a_mo a_mem a_mks a_mr a_cnt a_wd a_one a_two a_mmade a_mrest a_old v_thrown v_mask v_key v_wait v_problem v_code v_length m_203 v_masks v_addr v_mwanted u_23 v_after v_calls v_oneB v_twoB g_103.1 v_mkF) := hD
                  have hf9 : (m_203, u_23, g_103.1) = fX12_rows x0 x1 x2 x3 v_key v_cond v_wrong v_mF v_mkF := by simp only [fX12_rows, ← em_15, ← eu_15, ← eu_23, ← eg_103, ← em_203]; (try simp only [if_pos c_30, if_neg c_38, if_neg c_175, if_neg c_182, if_pos c_189])
                  exact W.vret hx hb hr (fun t9 ht9 hW9 => ⟨⟨(m_203, u_23, g_103.1), rfl, hf9, ⟨by rw [ht9]; exact hP, va_K.moved hW9.alike hK, hD⟩⟩, hS.F ht9⟩) hS.2.2 dX12_rows_206
                refine lv_if_eq (tgt := 202) hx hb dX12_rows_195 (by decide) (fun c_195 => ?_) (fun c_195 => ?_)
                · skip
                  refine lv_iconst (v := 0) hx hb dX12_rows_202 (by decide) ?_
                  exact J_203 0 (by (try simp only [if_pos c_195])) _ _ hP hD hS ls (lv_sub hl [0, 1, 2, 3, 4, 5, 6] rfl)
                · skip
                  refine lv_iconst (v := 1) hx hb dX12_rows_198 (by decide) ?_
                  refine lv_goto (tgt := 203) hx hb dX12_rows_199 (by decide) ?_
                  exact J_203 1 (by (try simp only [if_neg c_195])) _ _ hP hD hS ls (lv_sub hl [0, 1, 2, 3, 4, 5, 6] rfl)
        have lp_103 : ∀ (n9 : Nat) (w_103 : ((Nat → Int32) × Int32 × Int32)), msU x1 w_103.2.2 < n9 → 0 ≤ w_103.2.2 → LX12_rows_103 x0 x1 x2 x3 n9 w_103 = g_103 → ∀ (H : Heap) (locs : List Loc), va_P D vwCl (wX12_rows cI cB a_mo a_mem a_mks a_mr a_cnt a_wd a_one a_two a_mmade a_mrest a_old v_thrown v_mask v_key v_wait v_problem v_code v_length v_cond v_masks v_addr v_mwanted u_23 v_after v_calls v_oneB v_twoB w_103.1 v_mkF) H → va_D A (wX12_rows cI cB a_mo a_mem a_mks a_mr a_cnt a_wd a_one a_two a_mmade a_mrest a_old v_thrown v_mask v_key v_wait v_problem v_code v_length v_cond v_masks v_addr v_mwanted u_23 v_after v_calls v_oneB v_twoB w_103.1 v_mkF) → va_S A s.heap H locs → ∀ (ls : Array Slot), lv_has ls 7 [(0, .ref a_mo), (1, .int x0), (2, .int x1), (3, .int x2), (4, .int x3), (5, .int w_103.2.1), (6, .int w_103.2.2)] → W p l e rmX12_rows s m ([.ref a_mo, .int x0, .int x1, .int x2, .int x3] : List Value).toArray below meth c H locs 0 0 (MQ below (qX12_rows D cI cB a_mo a_mem a_mks a_mr a_cnt a_wd a_one a_two a_mmade a_mrest a_old v_thrown v_mask v_key v_wait v_problem v_code v_length v_cond v_masks v_addr v_mwanted v_wrong v_after v_calls v_oneB v_twoB v_mF v_mkF x0 x1 x2 x3 A) ([.ref a_mo, .int x0, .int x1, .int x2, .int x3] : List Value).toArray s 0 0 A) (F0 m 103 ls []) := by
          intro n9
          induction n9 with
          | zero => intro w_103 hm9; exact absurd hm9 (Nat.not_lt_zero _)
          | succ n9 ih =>
            intro w_103 hm9 hI9 hL9 H locs hP hD hS ls hl
            have hI_103 := hI9
            refine lv_iload hx hb dX12_rows_103 (lv_at hl 6 rfl) ?_
            refine lv_iload_n hx hb dX12_rows_105 rfl (lv_at hl 2 rfl) ?_
            refine lv_icmp_ge (tgt := 171) hx hb dX12_rows_106 (by decide) (fun c_106 => ?_) (fun c_106 => ?_)
            · skip
              have hg9 : (w_103.1, w_103.2.1, w_103.2.2) = g_103 := by rw [← hL9]; simp only [LX12_rows_103]; (try simp only [if_pos c_106])
              subst hg9
              exact K_103_0 _ _ hP hD hS ls (lv_sub hl [0, 1, 2, 3, 4, 5, 6] rfl)
            · skip
              refine lv_aload_n hx hb dX12_rows_109 rfl (lv_at hl 0 rfl) ?_
              refine va_get (D := D) (ci := 12) (v := .ref a_mem) (C := RX12) (T := TX12) (N := 26) hx hb hts in_X12 hown hK hP 0 rfl rfl 1 (by decide) q_1 (fun _ h9 => h9) rfl dX12_rows_110 ?_
              refine lv_iload_n hx hb dX12_rows_113 rfl (lv_at hl 3 rfl) ?_
              refine lv_iload hx hb dX12_rows_114 (lv_at hl 6 rfl) ?_
              refine lv_iadd hx hb dX12_rows_116 ?_
              refine lv_iload_n hx hb dX12_rows_117 rfl (lv_at hl 1 rfl) ?_
              refine lv_aload_n hx hb dX12_rows_118 rfl (lv_at hl 0 rfl) ?_
              refine va_get (D := D) (ci := 12) (v := .ref a_mem) (C := RX12) (T := TX12) (N := 26) hx hb hts in_X12 hown hK hP 0 rfl rfl 1 (by decide) q_1 (fun _ h9 => h9) rfl dX12_rows_119 ?_
              refine lv_iload_n hx hb dX12_rows_122 rfl (lv_at hl 3 rfl) ?_
              refine lv_iload hx hb dX12_rows_123 (lv_at hl 6 rfl) ?_
              refine lv_iadd hx hb dX12_rows_125 ?_
              refine va_iald hx hb hK hP 1 0 rfl rfl (inM_at hAB.1 hI9 c_106) dX12_rows_126 ?_
              refine lv_aload_n hx hb dX12_rows_127 rfl (lv_at hl 0 rfl) ?_
              refine va_get (D := D) (ci := 12) (v := .ref a_mem) (C := RX12) (T := TX12) (N := 26) hx hb hts in_X12 hown hK hP 0 rfl rfl 1 (by decide) q_1 (fun _ h9 => h9) rfl dX12_rows_128 ?_
              refine lv_iload hx hb dX12_rows_131 (lv_at hl 4 rfl) ?_
              refine lv_iload hx hb dX12_rows_133 (lv_at hl 6 rfl) ?_
              refine lv_iadd hx hb dX12_rows_135 ?_
              refine va_iald hx hb hK hP 1 0 rfl rfl (inM_at hAB.2 hI9 c_106) dX12_rows_136 ?_
              have hPc : va_P D vwCl (wX12_mixed cI cB  ) H := hP.sub [] rfl
              have hDc : va_D A (wX12_mixed cI cB  ) := hD.sub [] (by decide) rfl
              have hFc := va_free (wc := (wX12_mixed cI cB  )) hD hS hA [] rfl
              refine va_calli (va_runS (As := [.int x0, .int ((w_103.1 ((x2 + w_103.2.2) : Int32).toNatClampNeg)), .int ((w_103.1 ((x3 + w_103.2.2) : Int32).toNatClampNeg))]) (rest := [.int (x2 + w_103.2.2), .ref a_mem]) ⟨hx, hb, hml, hown, hts⟩ (kX12_mixed l D cI cB  H.size  x0 (w_103.1 ((x2 + w_103.2.2) : Int32).toNatClampNeg) (w_103.1 ((x3 + w_103.2.2) : Int32).toNatClampNeg)) (va_cwS 3 hts (gd_S wd_974 wd_975 wd_807 wd_972) rfl rfl rfl hdX12_mixed.2 ⟨Nat.le_of_ble_eq_true rfl, Nat.le_of_ble_eq_true rfl⟩) (preS_std hPc hK hDc hNW) rfl rfl hl.1 rfl (lv_room (Nat.le_of_ble_eq_true rfl)) dX12_rows_137 ⟨Nat.zero_le _, Nat.zero_le _⟩) hS (fun q _ h => hFc q h) hFc (fun r_137 u_137 t9 H1 locs ht9 hvm9 hw9 hB9 hz9 hk9 hS => ?_)
              have er_137 : r_137 = fX12_mixed x0 (w_103.1 ((x2 + w_103.2.2) : Int32).toNatClampNeg) (w_103.1 ((x3 + w_103.2.2) : Int32).toNatClampNeg) := hw9
              obtain ⟨hP, hD⟩ := back_std (w1 := (wX12_mixed cI cB  )) (w2 := (wX12_rows cI cB a_mo a_mem a_mks a_mr a_cnt a_wd a_one a_two a_mmade a_mrest a_old v_thrown v_mask v_key v_wait v_problem v_code v_length v_cond v_masks v_addr v_mwanted u_23 v_after v_calls v_oneB v_twoB w_103.1 v_mkF)) (wr := [(a_mo, .inr (12, [.int v_thrown, .ref a_mem, .ref a_mks, .ref a_mr, .int v_mask, .int v_key, .int v_wait, .int v_problem, .int v_code, .int v_length, .int v_cond, .int v_masks, .int v_addr, .int v_mwanted, .ref a_cnt, .ref a_wd, .int u_23, .int v_after, .int v_calls, .ref a_one, .int v_oneB, .ref a_two, .int v_twoB, .ref a_mmade, .ref a_mrest, .ref a_old])), (a_mem, .inl (cI, 8192, .inl w_103.1)), (a_mks, .inl (cI, 4, .inl v_mkF))]) hP hD [] [0, 1, 2] [0, 1, 2] rfl rfl (by decide) (by decide) hk9 hFc hB9 ht9 (by decide) rfl
              clear hB9 hk9 hz9 hvm9 ht9 hFc hPc hDc
              generalize H1 = H at hP hS ⊢
              refine va_iast hx hb hK hP hD hS 1 0 rfl rfl (inM_at hAB.1 hI9 c_106) dX12_rows_140 (fun H locs hP hD hS => ?_)
              obtain ⟨f_140, ef_140⟩ : ∃ z : Nat → Int32, z = upd w_103.1 ((x2 + w_103.2.2) : Int32).toNatClampNeg (r_137) := ⟨_, rfl⟩
              have hP : va_P D vwCl (wX12_rows cI cB a_mo a_mem a_mks a_mr a_cnt a_wd a_one a_two a_mmade a_mrest a_old v_thrown v_mask v_key v_wait v_problem v_code v_length v_cond v_masks v_addr v_mwanted u_23 v_after v_calls v_oneB v_twoB (upd w_103.1 ((x2 + w_103.2.2) : Int32).toNatClampNeg (r_137)) v_mkF) H := hP
              have hD : va_D A (wX12_rows cI cB a_mo a_mem a_mks a_mr a_cnt a_wd a_one a_two a_mmade a_mrest a_old v_thrown v_mask v_key v_wait v_problem v_code v_length v_cond v_masks v_addr v_mwanted u_23 v_after v_calls v_oneB v_twoB (upd w_103.1 ((x2 + w_103.2.2) : Int32).toNatClampNeg (r_137)) v_mkF) := hD
              rw [← ef_140] at hP hD
              refine lv_iload hx hb dX12_rows_141 (lv_at hl 5 rfl) ?_
              have J_163 : ∀ (m_163 : Int32), m_163 = (if w_103.2.1 = 0 then (if (f_140 ((x2 + w_103.2.2) : Int32).toNatClampNeg) = 0 then (0) else (1)) else (1)) → ∀ (H : Heap) (locs : List Loc), va_P D vwCl (wX12_rows cI cB a_mo a_mem a_mks a_mr a_cnt a_wd a_one a_two a_mmade a_mrest a_old v_thrown v_mask v_key v_wait v_problem v_code v_length v_cond v_masks v_addr v_mwanted u_23 v_after v_calls v_oneB v_twoB f_140 v_mkF) H → va_D A (wX12_rows cI cB a_mo a_mem a_mks a_mr a_cnt a_wd a_one a_two a_mmade a_mrest a_old v_thrown v_mask v_key v_wait v_problem v_code v_length v_cond v_masks v_addr v_mwanted u_23 v_after v_calls v_oneB v_twoB f_140 v_mkF) → va_S A s.heap H locs → ∀ (ls : Array Slot), lv_has ls 7 [(0, .ref a_mo), (1, .int x0), (2, .int x1), (3, .int x2), (4, .int x3), (5, .int w_103.2.1), (6, .int w_103.2.2)] → W p l e rmX12_rows s m ([.ref a_mo, .int x0, .int x1, .int x2, .int x3] : List Value).toArray below meth c H locs 0 0 (MQ below (qX12_rows D cI cB a_mo a_mem a_mks a_mr a_cnt a_wd a_one a_two a_mmade a_mrest a_old v_thrown v_mask v_key v_wait v_problem v_code v_length v_cond v_masks v_addr v_mwanted v_wrong v_after v_calls v_oneB v_twoB v_mF v_mkF x0 x1 x2 x3 A) ([.ref a_mo, .int x0, .int x1, .int x2, .int x3] : List Value).toArray s 0 0 A) (F0 m 163 ls [.int m_163]) := by
                intro m_163 em_163 H locs hP hD hS ls hl
                try dsimp only at em_163
                have zm_163_0 : m_163 = 0 ∨ m_163 = 1 := by rw [em_163]; (try dsimp only); (repeat' split) <;> first | exact Or.inl rfl | exact Or.inr rfl
                refine lv_istore (lv' := [(5, .int m_163), (0, .ref a_mo), (1, .int x0), (2, .int x1), (3, .int x2), (4, .int x3), (6, .int w_103.2.2)]) hx hb dX12_rows_163 hl (by decide) rfl (fun ls hl => ?_)
                obtain ⟨x_165, ex_165⟩ : ∃ z : Int32, z = w_103.2.2 + 1 := ⟨_, rfl⟩
                refine lv_iinc (v := x_165) (lv' := [(6, .int x_165), (5, .int m_163), (0, .ref a_mo), (1, .int x0), (2, .int x1), (3, .int x2), (4, .int x3)]) hx hb dX12_rows_165 hl (k := 6) rfl (by rw [ex_165]; rfl) (by decide) rfl (fun ls hl => ?_)
                refine lv_goto (tgt := 103) hx hb dX12_rows_168 (by decide) ?_
                exact ih (f_140, m_163, x_165) (by subst ex_165; subst em_163; subst ef_140; subst er_137;  exact Nat.lt_of_lt_of_le (ms_up c_106) (Nat.le_of_lt_succ hm9)) (by subst ex_165; subst em_163; subst ef_140; subst er_137;  exact nn_up hI9 c_106) (by rw [← hL9]; subst ex_165; subst ef_140; simp only [LX12_rows_103, ← er_137, ← em_163]; (try simp only [if_neg c_106])) _ _ hP hD hS ls (lv_sub hl [2, 3, 4, 5, 6, 1, 0] rfl)
              refine lv_if_ne (tgt := 158) hx hb dX12_rows_143 (by decide) (fun c_143 => ?_) (fun c_143 => ?_)
              · skip
                refine lv_iconst (v := 1) hx hb dX12_rows_158 (by decide) ?_
                refine lv_goto (tgt := 163) hx hb dX12_rows_159 (by decide) ?_
                exact J_163 1 (by (try simp only [if_neg c_143])) _ _ hP hD hS ls (lv_sub hl [0, 1, 2, 3, 4, 5, 6] rfl)
              · skip
                refine lv_aload_n hx hb dX12_rows_146 rfl (lv_at hl 0 rfl) ?_
                refine va_get (D := D) (ci := 12) (v := .ref a_mem) (C := RX12) (T := TX12) (N := 26) hx hb hts in_X12 hown hK hP 0 rfl rfl 1 (by decide) q_1 (fun _ h9 => h9) rfl dX12_rows_147 ?_
                refine lv_iload_n hx hb dX12_rows_150 rfl (lv_at hl 3 rfl) ?_
                refine lv_iload hx hb dX12_rows_151 (lv_at hl 6 rfl) ?_
                refine lv_iadd hx hb dX12_rows_153 ?_
                refine va_iald hx hb hK hP 1 0 rfl rfl (inM_at hAB.1 hI9 c_106) dX12_rows_154 ?_
                refine lv_if_eq (tgt := 162) hx hb dX12_rows_155 (by decide) (fun c_155 => ?_) (fun c_155 => ?_)
                · skip
                  refine lv_iconst (v := 0) hx hb dX12_rows_162 (by decide) ?_
                  exact J_163 0 (by (try simp only [if_pos c_143, if_pos c_155])) _ _ hP hD hS ls (lv_sub hl [0, 1, 2, 3, 4, 5, 6] rfl)
                · skip
                  refine lv_iconst (v := 1) hx hb dX12_rows_158 (by decide) ?_
                  refine lv_goto (tgt := 163) hx hb dX12_rows_159 (by decide) ?_
                  exact J_163 1 (by (try simp only [if_pos c_143, if_neg c_155])) _ _ hP hD hS ls (lv_sub hl [0, 1, 2, 3, 4, 5, 6] rfl)
        exact lp_103 (msU x1 0 + 1) (v_mF, 0, 0) (Nat.lt_succ_self _) (by show (0 : Int32) ≤ 0; decide) eg_103.symm _ _ hP hD hS ls (lv_sub hl [2, 3, 4, 5, 6, 1, 0] rfl)
      · skip
        refine lv_aload_n hx hb dX12_rows_41 rfl (lv_at hl 0 rfl) ?_
        refine lv_iconst (v := 0) hx hb dX12_rows_42 (by decide) ?_
        refine va_put (D := D) (ci := 12) (v := .int 0) (ty := .int) (C := RX12) (T := TX12) (N := 26) hx hb hts in_X12 tyX12 tyX12_ok nmX12 hown hK hP hD hS 0 rfl rfl 10 (by decide) q_2 (fun _ h9 => h9) rfl (by decide +kernel) rfl rfl (Nat.le_of_ble_eq_true rfl) dX12_rows_43 (fun H locs hP hD hS => ?_)
        have hP : va_P D vwCl (wX12_rows cI cB a_mo a_mem a_mks a_mr a_cnt a_wd a_one a_two a_mmade a_mrest a_old v_thrown v_mask v_key v_wait v_problem v_code v_length 0 v_masks v_addr v_mwanted u_23 v_after v_calls v_oneB v_twoB v_mF v_mkF) H := hP
        have hD : va_D A (wX12_rows cI cB a_mo a_mem a_mks a_mr a_cnt a_wd a_one a_two a_mmade a_mrest a_old v_thrown v_mask v_key v_wait v_problem v_code v_length 0 v_masks v_addr v_mwanted u_23 v_after v_calls v_oneB v_twoB v_mF v_mkF) := hD
        refine lv_iconst (v := 0) hx hb dX12_rows_46 (by decide) ?_
        refine lv_istore (lv' := [(5, .int 0), (0, .ref a_mo), (1, .int x0), (2, .int x1), (3, .int x2), (4, .int x3)]) hx hb dX12_rows_47 hl (by decide) rfl (fun ls hl => ?_)
        obtain ⟨g_49, eg_49⟩ : ∃ z : (Int32 × Int32), z = LX12_rows_49 x1 x2 x3 v_mF (msU x1 0 + 1) (0, 0) := ⟨_, rfl⟩
        have K_49_0 : ∀ (H : Heap) (locs : List Loc), va_P D vwCl (wX12_rows cI cB a_mo a_mem a_mks a_mr a_cnt a_wd a_one a_two a_mmade a_mrest a_old v_thrown v_mask v_key v_wait v_problem v_code v_length g_49.1 v_masks v_addr v_mwanted u_23 v_after v_calls v_oneB v_twoB v_mF v_mkF) H → va_D A (wX12_rows cI cB a_mo a_mem a_mks a_mr a_cnt a_wd a_one a_two a_mmade a_mrest a_old v_thrown v_mask v_key v_wait v_problem v_code v_length g_49.1 v_masks v_addr v_mwanted u_23 v_after v_calls v_oneB v_twoB v_mF v_mkF) → va_S A s.heap H locs → ∀ (ls : Array Slot), lv_has ls 7 [(0, .ref a_mo), (1, .int x0), (2, .int x1), (3, .int x2), (4, .int x3), (5, .int g_49.2)] → W p l e rmX12_rows s m ([.ref a_mo, .int x0, .int x1, .int x2, .int x3] : List Value).toArray below meth c H locs 0 0 (MQ below (qX12_rows D cI cB a_mo a_mem a_mks a_mr a_cnt a_wd a_one a_two a_mmade a_mrest a_old v_thrown v_mask v_key v_wait v_problem v_code v_length v_cond v_masks v_addr v_mwanted v_wrong v_after v_calls v_oneB v_twoB v_mF v_mkF x0 x1 x2 x3 A) ([.ref a_mo, .int x0, .int x1, .int x2, .int x3] : List Value).toArray s 0 0 A) (F0 m 96 ls []) := by
          intro H locs hP hD hS ls hl
          have hf9 : (g_49.1, u_23, v_mF) = fX12_rows x0 x1 x2 x3 v_key v_cond v_wrong v_mF v_mkF := by simp only [fX12_rows, ← em_15, ← eu_15, ← eu_23, ← eg_49]; (try simp only [if_pos c_30, if_pos c_38])
          exact W.vret hx hb hr (fun t9 ht9 hW9 => ⟨⟨(g_49.1, u_23, v_mF), rfl, hf9, ⟨by rw [ht9]; exact hP, va_K.moved hW9.alike hK, hD⟩⟩, hS.F ht9⟩) hS.2.2 dX12_rows_96
        have lp_49 : ∀ (n9 : Nat) (w_49 : (Int32 × Int32)), msU x1 w_49.2 < n9 → 0 ≤ w_49.2 → LX12_rows_49 x1 x2 x3 v_mF n9 w_49 = g_49 → ∀ (H : Heap) (locs : List Loc), va_P D vwCl (wX12_rows cI cB a_mo a_mem a_mks a_mr a_cnt a_wd a_one a_two a_mmade a_mrest a_old v_thrown v_mask v_key v_wait v_problem v_code v_length w_49.1 v_masks v_addr v_mwanted u_23 v_after v_calls v_oneB v_twoB v_mF v_mkF) H → va_D A (wX12_rows cI cB a_mo a_mem a_mks a_mr a_cnt a_wd a_one a_two a_mmade a_mrest a_old v_thrown v_mask v_key v_wait v_problem v_code v_length w_49.1 v_masks v_addr v_mwanted u_23 v_after v_calls v_oneB v_twoB v_mF v_mkF) → va_S A s.heap H locs → ∀ (ls : Array Slot), lv_has ls 7 [(0, .ref a_mo), (1, .int x0), (2, .int x1), (3, .int x2), (4, .int x3), (5, .int w_49.2)] → W p l e rmX12_rows s m ([.ref a_mo, .int x0, .int x1, .int x2, .int x3] : List Value).toArray below meth c H locs 0 0 (MQ below (qX12_rows D cI cB a_mo a_mem a_mks a_mr a_cnt a_wd a_one a_two a_mmade a_mrest a_old v_thrown v_mask v_key v_wait v_problem v_code v_length v_cond v_masks v_addr v_mwanted v_wrong v_after v_calls v_oneB v_twoB v_mF v_mkF x0 x1 x2 x3 A) ([.ref a_mo, .int x0, .int x1, .int x2, .int x3] : List Value).toArray s 0 0 A) (F0 m 49 ls []) := by
          intro n9
          induction n9 with
          | zero => intro w_49 hm9; exact absurd hm9 (Nat.not_lt_zero _)
          | succ n9 ih =>
            intro w_49 hm9 hI9 hL9 H locs hP hD hS ls hl
            have hI_49 := hI9
            refine lv_iload hx hb dX12_rows_49 (lv_at hl 5 rfl) ?_
            refine lv_iload_n hx hb dX12_rows_51 rfl (lv_at hl 2 rfl) ?_
            refine lv_icmp_ge (tgt := 96) hx hb dX12_rows_52 (by decide) (fun c_52 => ?_) (fun c_52 => ?_)
            · skip
              have hg9 : (w_49.1, w_49.2) = g_49 := by rw [← hL9]; simp only [LX12_rows_49]; (try simp only [if_pos c_52])
              subst hg9
              exact K_49_0 _ _ hP hD hS ls (lv_sub hl [0, 1, 2, 3, 4, 5] rfl)
            · skip
              refine lv_aload_n hx hb dX12_rows_55 rfl (lv_at hl 0 rfl) ?_
              refine va_get (D := D) (ci := 12) (v := .int w_49.1) (C := RX12) (T := TX12) (N := 26) hx hb hts in_X12 hown hK hP 0 rfl rfl 10 (by decide) q_2 (fun _ h9 => h9) rfl dX12_rows_56 ?_
              refine lv_if_ne (tgt := 96) hx hb dX12_rows_59 (by decide) (fun c_59 => ?_) (fun c_59 => ?_)
              · skip
                have hg9 : (w_49.1, w_49.2) = g_49 := by rw [← hL9]; simp only [LX12_rows_49]; (try simp only [if_neg c_52, if_neg c_59])
                subst hg9
                exact K_49_0 _ _ hP hD hS ls (lv_sub hl [0, 1, 2, 3, 4, 5] rfl)
              · skip
                refine lv_aload_n hx hb dX12_rows_62 rfl (lv_at hl 0 rfl) ?_
                refine lv_aload_n hx hb dX12_rows_63 rfl (lv_at hl 0 rfl) ?_
                refine va_get (D := D) (ci := 12) (v := .ref a_mem) (C := RX12) (T := TX12) (N := 26) hx hb hts in_X12 hown hK hP 0 rfl rfl 1 (by decide) q_1 (fun _ h9 => h9) rfl dX12_rows_64 ?_
                refine lv_iload_n hx hb dX12_rows_67 rfl (lv_at hl 3 rfl) ?_
                refine lv_iload hx hb dX12_rows_68 (lv_at hl 5 rfl) ?_
                refine lv_iadd hx hb dX12_rows_70 ?_
                refine va_iald hx hb hK hP 1 0 rfl rfl (inM_at hAB.1 hI9 c_52) dX12_rows_71 ?_
                refine lv_i2l hx hb dX12_rows_72 rfl ?_
                refine lv_aload_n hx hb dX12_rows_73 rfl (lv_at hl 0 rfl) ?_
                refine va_get (D := D) (ci := 12) (v := .ref a_mem) (C := RX12) (T := TX12) (N := 26) hx hb hts in_X12 hown hK hP 0 rfl rfl 1 (by decide) q_1 (fun _ h9 => h9) rfl dX12_rows_74 ?_
                refine lv_iload hx hb dX12_rows_77 (lv_at hl 4 rfl) ?_
                refine lv_iload hx hb dX12_rows_79 (lv_at hl 5 rfl) ?_
                refine lv_iadd hx hb dX12_rows_81 ?_
                refine va_iald hx hb hK hP 1 0 rfl rfl (inM_at hAB.2 hI9 c_52) dX12_rows_82 ?_
                refine lv_i2l hx hb dX12_rows_83 rfl ?_
                have hPc : va_P D vwCl (wX12_byOrder cI cB  ) H := hP.sub [] rfl
                have hDc : va_D A (wX12_byOrder cI cB  ) := hD.sub [] (by decide) rfl
                have hFc := va_free (wc := (wX12_byOrder cI cB  )) hD hS hA [] rfl
                refine va_calli (va_runS (As := [.long (((v_mF ((x2 + w_49.2) : Int32).toNatClampNeg) : Int32).toInt64), .long (((v_mF ((x3 + w_49.2) : Int32).toNatClampNeg) : Int32).toInt64)]) (rest := [.ref a_mo]) ⟨hx, hb, hml, hown, hts⟩ (kX12_byOrder l D cI cB  H.size  (((v_mF ((x2 + w_49.2) : Int32).toNatClampNeg) : Int32).toInt64) (((v_mF ((x3 + w_49.2) : Int32).toNatClampNeg) : Int32).toInt64)) (va_cwS 2 hts (gd_S wd_878 wd_879 wd_807 wd_845) rfl rfl rfl hdX12_byOrder.2 ⟨Nat.le_of_ble_eq_true rfl, Nat.le_of_ble_eq_true rfl⟩) (preS_std hPc hK hDc hNW) rfl rfl hl.1 rfl (lv_room (Nat.le_of_ble_eq_true rfl)) dX12_rows_84 ⟨Nat.zero_le _, Nat.zero_le _⟩) hS (fun q _ h => hFc q h) hFc (fun r_84 u_84 t9 H1 locs ht9 hvm9 hw9 hB9 hz9 hk9 hS => ?_)
                have er_84 : r_84 = fX12_byOrder (((v_mF ((x2 + w_49.2) : Int32).toNatClampNeg) : Int32).toInt64) (((v_mF ((x3 + w_49.2) : Int32).toNatClampNeg) : Int32).toInt64) := hw9
                obtain ⟨hP, hD⟩ := back_std (w1 := (wX12_byOrder cI cB  )) (w2 := (wX12_rows cI cB a_mo a_mem a_mks a_mr a_cnt a_wd a_one a_two a_mmade a_mrest a_old v_thrown v_mask v_key v_wait v_problem v_code v_length w_49.1 v_masks v_addr v_mwanted u_23 v_after v_calls v_oneB v_twoB v_mF v_mkF)) (wr := [(a_mo, .inr (12, [.int v_thrown, .ref a_mem, .ref a_mks, .ref a_mr, .int v_mask, .int v_key, .int v_wait, .int v_problem, .int v_code, .int v_length, .int w_49.1, .int v_masks, .int v_addr, .int v_mwanted, .ref a_cnt, .ref a_wd, .int u_23, .int v_after, .int v_calls, .ref a_one, .int v_oneB, .ref a_two, .int v_twoB, .ref a_mmade, .ref a_mrest, .ref a_old])), (a_mem, .inl (cI, 8192, .inl v_mF)), (a_mks, .inl (cI, 4, .inl v_mkF))]) hP hD [] [0, 1, 2] [0, 1, 2] rfl rfl (by decide) (by decide) hk9 hFc hB9 ht9 (by decide) rfl
                clear hB9 hk9 hz9 hvm9 ht9 hFc hPc hDc
                generalize H1 = H at hP hS ⊢
                refine va_put (D := D) (ci := 12) (v := .int r_84) (ty := .int) (C := RX12) (T := TX12) (N := 26) hx hb hts in_X12 tyX12 tyX12_ok nmX12 hown hK hP hD hS 0 rfl rfl 10 (by decide) q_2 (fun _ h9 => h9) rfl (by decide +kernel) rfl rfl (Nat.le_of_ble_eq_true rfl) dX12_rows_87 (fun H locs hP hD hS => ?_)
                have hP : va_P D vwCl (wX12_rows cI cB a_mo a_mem a_mks a_mr a_cnt a_wd a_one a_two a_mmade a_mrest a_old v_thrown v_mask v_key v_wait v_problem v_code v_length r_84 v_masks v_addr v_mwanted u_23 v_after v_calls v_oneB v_twoB v_mF v_mkF) H := hP
                have hD : va_D A (wX12_rows cI cB a_mo a_mem a_mks a_mr a_cnt a_wd a_one a_two a_mmade a_mrest a_old v_thrown v_mask v_key v_wait v_problem v_code v_length r_84 v_masks v_addr v_mwanted u_23 v_after v_calls v_oneB v_twoB v_mF v_mkF) := hD
                obtain ⟨x_90, ex_90⟩ : ∃ z : Int32, z = w_49.2 + 1 := ⟨_, rfl⟩
                refine lv_iinc (v := x_90) (lv' := [(5, .int x_90), (0, .ref a_mo), (1, .int x0), (2, .int x1), (3, .int x2), (4, .int x3)]) hx hb dX12_rows_90 hl (k := 5) rfl (by rw [ex_90]; rfl) (by decide) rfl (fun ls hl => ?_)
                refine lv_goto (tgt := 49) hx hb dX12_rows_93 (by decide) ?_
                exact ih (r_84, x_90) (by subst ex_90; subst er_84;  exact Nat.lt_of_lt_of_le (ms_up c_52) (Nat.le_of_lt_succ hm9)) (by subst ex_90; subst er_84;  exact nn_up hI9 c_52) (by rw [← hL9]; subst ex_90; simp only [LX12_rows_49, ← er_84]; (try simp only [if_neg c_52, if_pos c_59])) _ _ hP hD hS ls (lv_sub hl [1, 2, 3, 4, 5, 0] rfl)
        exact lp_49 (msU x1 0 + 1) (0, 0) (Nat.lt_succ_self _) (by show (0 : Int32) ≤ 0; decide) eg_49.symm _ _ hP hD hS ls (lv_sub hl [1, 2, 3, 4, 5, 0] rfl)
    · skip
      have hf9 : (v_cond, u_23, v_mF) = fX12_rows x0 x1 x2 x3 v_key v_cond v_wrong v_mF v_mkF := by simp only [fX12_rows, ← em_15, ← eu_15, ← eu_23]; (try simp only [if_neg c_30])
      exact W.vret hx hb hr (fun t9 ht9 hW9 => ⟨⟨(v_cond, u_23, v_mF), rfl, hf9, ⟨by rw [ht9]; exact hP, va_K.moved hW9.alike hK, hD⟩⟩, hS.F ht9⟩) hS.2.2 dX12_rows_33
  refine lv_icmp_eq (tgt := 14) hx hb dX12_rows_7 (by decide) (fun c_7 => ?_) (fun c_7 => ?_)
  · skip
    refine lv_iconst (v := 0) hx hb dX12_rows_14 (by decide) ?_
    exact J_15 0 (by (try simp only [if_pos c_7])) _ _ hP hD hS ls (lv_sub hl [0, 1, 2, 3, 4] rfl)
  · skip
    refine lv_iconst (v := 1) hx hb dX12_rows_10 (by decide) ?_
    refine lv_goto (tgt := 15) hx hb dX12_rows_11 (by decide) ?_
    exact J_15 1 (by (try simp only [if_neg c_7])) _ _ hP hD hS ls (lv_sub hl [0, 1, 2, 3, 4] rfl)
theorem hdX12_rows : yX12_rows.cls = RX12 ∧ yX12_rows.cls ≠ "java/lang/invoke/MethodHandle" ∧ yX12_rows.cls ≠ "java/lang/invoke/VarHandle" ∧ (parseMethodDescriptor yX12_rows.desc).map (fun d => d.parameters.length) = some 4 := by decide +kernel
