noncomputable def LX12_taken_2 : Nat → ((Nat → Int32) × Int32) → ((Nat → Int32) × Int32)
  | 0, w_2 => w_2
  | n9 + 1, w_2 =>
    if 6 ≤ w_2.2 then ((w_2.1, w_2.2)) else (let f_14 := upd w_2.1 (w_2.2 : Int32).toNatClampNeg (0); let x_15 := w_2.2 + 1; LX12_taken_2 n9 (f_14, x_15))
noncomputable def LX12_taken_64 (x0 : Int32) (v_mF : (Nat → Int32)) (r_49 : Int32) (u_59 : Int32) : Nat → ((Nat → Int32) × Int32) → ((Nat → Int32) × Int32)
  | 0, w_64 => w_64
  | n9 + 1, w_64 =>
    if (2 * r_49) ≤ w_64.2 then ((w_64.1, w_64.2)) else (if u_59 = 0 then (let f_91 := upd w_64.1 (w_64.2 : Int32).toNatClampNeg ((v_mF ((x0 + w_64.2) : Int32).toNatClampNeg)); let x_92 := w_64.2 + 1; LX12_taken_64 x0 v_mF r_49 u_59 n9 (f_91, x_92)) else ((w_64.1, w_64.2)))
noncomputable def fX12_taken (x0 : Int32) (v_key : Int32) (v_wrong : Int32) (v_mF : (Nat → Int32)) (v_mkF : (Nat → Int32)) (v_wdF : (Nat → Int32)) : (Int32 × (Int32 × (Nat → Int32))) :=
  let g_2 := LX12_taken_2  (msU 6 0 + 1) (v_wdF, 0)
  let u_25 := fX12_look x0 2 0 v_key v_wrong v_mkF
  let u_31 := fX12_even x0 2 u_25
  if u_31 ≤ 0 then (let r_49 := fX12_halvesOf (v_mF (x0 : Int32).toNatClampNeg); let u_59 := fX12_look x0 (2 * r_49) 0 v_key u_31 v_mkF; let g_64 := LX12_taken_64 x0 v_mF r_49 u_59 (msU (2 * r_49) 0 + 1) (g_2.1, 0); if u_59 = 0 then ((1, (u_59, g_64.1))) else ((0, (u_59, g_64.1)))) else ((0, (u_31, g_2.1)))
theorem zX12_taken (x0 : Int32) (v_key : Int32) (v_wrong : Int32) (v_mF : (Nat → Int32)) (v_mkF : (Nat → Int32)) (v_wdF : (Nat → Int32)) : (fX12_taken x0 v_key v_wrong v_mF v_mkF v_wdF).1 = 0 ∨ (fX12_taken x0 v_key v_wrong v_mF v_mkF v_wdF).1 = 1 := by simp only [fX12_taken]; (repeat' split) <;> first | exact Or.inl rfl | exact Or.inr rfl
abbrev wX12_taken (cI cB : ClassId) (a_mo a_mem a_mks a_mr a_cnt a_wd a_one a_two a_mmade a_mrest a_old : Nat) (v_thrown : Int32) (v_mask : Int32) (v_key : Int32) (v_wait : Int32) (v_problem : Int32) (v_code : Int32) (v_length : Int32) (v_cond : Int32) (v_masks : Int32) (v_addr : Int32) (v_mwanted : Int32) (v_wrong : Int32) (v_after : Int32) (v_calls : Int32) (v_oneB : Int32) (v_twoB : Int32) (v_mF : (Nat → Int32)) (v_mkF : (Nat → Int32)) (v_wdF : (Nat → Int32)) : va_W := [(a_mo, .inr (12, [.int v_thrown, .ref a_mem, .ref a_mks, .ref a_mr, .int v_mask, .int v_key, .int v_wait, .int v_problem, .int v_code, .int v_length, .int v_cond, .int v_masks, .int v_addr, .int v_mwanted, .ref a_cnt, .ref a_wd, .int v_wrong, .int v_after, .int v_calls, .ref a_one, .int v_oneB, .ref a_two, .int v_twoB, .ref a_mmade, .ref a_mrest, .ref a_old])), (a_mem, .inl (cI, 8192, .inl v_mF)), (a_mks, .inl (cI, 4, .inl v_mkF)), (a_wd, .inl (cI, 6, .inl v_wdF))]
abbrev rmX12_taken : Room := { frames := 2, cells := 0, slots := 0, locals := 48 }
abbrev qX12_taken (D : va_G) (cI cB : ClassId) (a_mo a_mem a_mks a_mr a_cnt a_wd a_one a_two a_mmade a_mrest a_old : Nat) (v_thrown : Int32) (v_mask : Int32) (v_key : Int32) (v_wait : Int32) (v_problem : Int32) (v_code : Int32) (v_length : Int32) (v_cond : Int32) (v_masks : Int32) (v_addr : Int32) (v_mwanted : Int32) (v_wrong : Int32) (v_after : Int32) (v_calls : Int32) (v_oneB : Int32) (v_twoB : Int32) (v_mF : (Nat → Int32)) (v_mkF : (Nat → Int32)) (v_wdF : (Nat → Int32)) (x0 : Int32) : (Nat → Prop) → Array Value → State → Outcome → State → Prop := fun A9 => va_Qi (fun (r9 : Int32) (u9 : (Int32 × (Nat → Int32))) => r9 = (fX12_taken x0 v_key v_wrong v_mF v_mkF v_wdF).1 ∧ u9 = (fX12_taken x0 v_key v_wrong v_mF v_mkF v_wdF).2) (fun u9 t9 => atW D (TYS cI cB) A9 (wX12_taken cI cB a_mo a_mem a_mks a_mr a_cnt a_wd a_one a_two a_mmade a_mrest a_old v_thrown v_mask v_key v_wait v_problem v_code v_length v_cond v_masks v_addr v_mwanted u9.1 v_after v_calls v_oneB v_twoB v_mF v_mkF u9.2) t9) A9
set_option maxHeartbeats 4000000 in
set_option maxRecDepth 100000 in
theorem kX12_taken (l : Launch) (D : va_G) (cI cB : ClassId) (a_mo a_mem a_mks a_mr a_cnt a_wd a_one a_two a_mmade a_mrest a_old : Nat) (sz : Nat) (v_thrown : Int32) (v_mask : Int32) (v_key : Int32) (v_wait : Int32) (v_problem : Int32) (v_code : Int32) (v_length : Int32) (v_cond : Int32) (v_masks : Int32) (v_addr : Int32) (v_mwanted : Int32) (v_wrong : Int32) (v_after : Int32) (v_calls : Int32) (v_oneB : Int32) (v_twoB : Int32) (v_mF : (Nat → Int32)) (v_mkF : (Nat → Int32)) (v_wdF : (Nat → Int32)) (x0 : Int32) (ha : in24 x0) (hw : 0 ≤ v_wrong) : MetW l yX12_taken (WK yX12_taken cX12_taken 4 (some .boolean)) rmX12_taken D (TYS cI cB) (wX12_taken cI cB a_mo a_mem a_mks a_mr a_cnt a_wd a_one a_two a_mmade a_mrest a_old v_thrown v_mask v_key v_wait v_problem v_code v_length v_cond v_masks v_addr v_mwanted v_wrong v_after v_calls v_oneB v_twoB v_mF v_mkF v_wdF) sz [.ref a_mo, .int x0] (qX12_taken D cI cB a_mo a_mem a_mks a_mr a_cnt a_wd a_one a_two a_mmade a_mrest a_old v_thrown v_mask v_key v_wait v_problem v_code v_length v_cond v_masks v_addr v_mwanted v_wrong v_after v_calls v_oneB v_twoB v_mF v_mkF v_wdF x0) 0 0 := by
  refine met_std (by decide) rfl (Nat.le_of_ble_eq_true rfl) ?_
  intro p e s m below meth c A ls H hx hb hr hml hown hts hlocks hA hP hK hD hS hNW hl
  have hl : lv_has ls 4 [(0, .ref a_mo), (1, .int x0)] := hl
  have q_0 := hts _ (List.mem_cons_of_mem _ wd_781)
  have q_1 := hts _ (List.mem_cons_of_mem _ wd_836)
  have q_2 := hts _ (List.mem_cons_of_mem _ wd_777)
  refine lv_iconst (v := 0) hx hb dX12_taken_0 (by decide) ?_
  refine lv_istore_n (lv' := [(2, .int 0), (0, .ref a_mo), (1, .int x0)]) hx hb dX12_taken_1 rfl hl (by decide) rfl (fun ls hl => ?_)
  obtain ⟨g_2, eg_2⟩ : ∃ z : ((Nat → Int32) × Int32), z = LX12_taken_2  (msU 6 0 + 1) (v_wdF, 0) := ⟨_, rfl⟩
  have K_2_0 : ∀ (H : Heap) (locs : List Loc), va_P D vwCl (wX12_taken cI cB a_mo a_mem a_mks a_mr a_cnt a_wd a_one a_two a_mmade a_mrest a_old v_thrown v_mask v_key v_wait v_problem v_code v_length v_cond v_masks v_addr v_mwanted v_wrong v_after v_calls v_oneB v_twoB v_mF v_mkF g_2.1) H → va_D A (wX12_taken cI cB a_mo a_mem a_mks a_mr a_cnt a_wd a_one a_two a_mmade a_mrest a_old v_thrown v_mask v_key v_wait v_problem v_code v_length v_cond v_masks v_addr v_mwanted v_wrong v_after v_calls v_oneB v_twoB v_mF v_mkF g_2.1) → va_S A s.heap H locs → ∀ (ls : Array Slot), lv_has ls 4 [(0, .ref a_mo), (1, .int x0), (2, .int g_2.2)] → W p l e rmX12_taken s m ([.ref a_mo, .int x0] : List Value).toArray below meth c H locs 0 0 (MQ below (qX12_taken D cI cB a_mo a_mem a_mks a_mr a_cnt a_wd a_one a_two a_mmade a_mrest a_old v_thrown v_mask v_key v_wait v_problem v_code v_length v_cond v_masks v_addr v_mwanted v_wrong v_after v_calls v_oneB v_twoB v_mF v_mkF v_wdF x0 A) ([.ref a_mo, .int x0] : List Value).toArray s 0 0 A) (F0 m 21 ls []) := by
    intro H locs hP hD hS ls hl
    refine lv_aload_n hx hb dX12_taken_21 rfl (lv_at hl 0 rfl) ?_
    refine lv_iload_n hx hb dX12_taken_22 rfl (lv_at hl 1 rfl) ?_
    refine lv_iconst (v := 2) hx hb dX12_taken_23 (by decide) ?_
    refine lv_iconst (v := 0) hx hb dX12_taken_24 (by decide) ?_
    have hPc : va_P D vwCl (wX12_look cI cB a_mo a_mem a_mks a_mr a_cnt a_wd a_one a_two a_mmade a_mrest a_old v_thrown v_mask v_key v_wait v_problem v_code v_length v_cond v_masks v_addr v_mwanted v_wrong v_after v_calls v_oneB v_twoB v_mkF) H := hP.sub [0, 2] rfl
    have hDc : va_D A (wX12_look cI cB a_mo a_mem a_mks a_mr a_cnt a_wd a_one a_two a_mmade a_mrest a_old v_thrown v_mask v_key v_wait v_problem v_code v_length v_cond v_masks v_addr v_mwanted v_wrong v_after v_calls v_oneB v_twoB v_mkF) := hD.sub [0, 2] (by decide) rfl
    have hFc := va_free (wc := (wX12_look cI cB a_mo a_mem a_mks a_mr a_cnt a_wd a_one a_two a_mmade a_mrest a_old v_thrown v_mask v_key v_wait v_problem v_code v_length v_cond v_masks v_addr v_mwanted v_wrong v_after v_calls v_oneB v_twoB v_mkF)) hD hS hA [0, 2] rfl
    refine va_callv (va_runV (As := [.int x0, .int 2, .int 0]) (rest := []) ⟨hx, hb, hml, hown, hts⟩ (kX12_look l D cI cB a_mo a_mem a_mks a_mr a_cnt a_wd a_one a_two a_mmade a_mrest a_old H.size v_thrown v_mask v_key v_wait v_problem v_code v_length v_cond v_masks v_addr v_mwanted v_wrong v_after v_calls v_oneB v_twoB v_mkF x0 2 0) (cwV 3 hts (gd_V wd_857 wd_858 wd_859 wd_807 wd_837) rfl rfl rfl hdX12_look ⟨Nat.le_of_ble_eq_true rfl, Nat.le_of_ble_eq_true rfl⟩) (preV_std (ci := 12) (q0 := 0) hPc hK hDc hNW rfl rfl) rfl rfl hl.1 rfl (lv_room (Nat.le_of_ble_eq_true rfl)) dX12_taken_25 ⟨Nat.zero_le _, Nat.zero_le _⟩) hS (fun q _ h => hFc q h) hFc (fun u_25 t9 H1 locs ht9 hvm9 hw9 hB9 hz9 hk9 hS => ?_)
    have eu_25 : u_25 = fX12_look x0 2 0 v_key v_wrong v_mkF := hw9
    obtain ⟨hP, hD⟩ := back_std (w1 := (wX12_look cI cB a_mo a_mem a_mks a_mr a_cnt a_wd a_one a_two a_mmade a_mrest a_old v_thrown v_mask v_key v_wait v_problem v_code v_length v_cond v_masks v_addr v_mwanted u_25 v_after v_calls v_oneB v_twoB v_mkF)) (w2 := (wX12_taken cI cB a_mo a_mem a_mks a_mr a_cnt a_wd a_one a_two a_mmade a_mrest a_old v_thrown v_mask v_key v_wait v_problem v_code v_length v_cond v_masks v_addr v_mwanted u_25 v_after v_calls v_oneB v_twoB v_mF v_mkF g_2.1)) (wr := [(a_mem, .inl (cI, 8192, .inl v_mF)), (a_wd, .inl (cI, 6, .inl g_2.1))]) hP hD [0, 2] [1, 3] [2, 0, 3, 1] rfl rfl (by decide) (by decide) hk9 hFc hB9 ht9 (by decide) rfl
    clear hB9 hk9 hz9 hvm9 ht9 hFc hPc hDc
    generalize H1 = H at hP hS ⊢
    refine lv_aload_n hx hb dX12_taken_28 rfl (lv_at hl 0 rfl) ?_
    refine lv_iload_n hx hb dX12_taken_29 rfl (lv_at hl 1 rfl) ?_
    refine lv_iconst (v := 2) hx hb dX12_taken_30 (by decide) ?_
    have hPc : va_P D vwCl (wX12_even cI cB a_mo a_mem a_mks a_mr a_cnt a_wd a_one a_two a_mmade a_mrest a_old v_thrown v_mask v_key v_wait v_problem v_code v_length v_cond v_masks v_addr v_mwanted u_25 v_after v_calls v_oneB v_twoB) H := hP.sub [0] rfl
    have hDc : va_D A (wX12_even cI cB a_mo a_mem a_mks a_mr a_cnt a_wd a_one a_two a_mmade a_mrest a_old v_thrown v_mask v_key v_wait v_problem v_code v_length v_cond v_masks v_addr v_mwanted u_25 v_after v_calls v_oneB v_twoB) := hD.sub [0] (by decide) rfl
    have hFc := va_free (wc := (wX12_even cI cB a_mo a_mem a_mks a_mr a_cnt a_wd a_one a_two a_mmade a_mrest a_old v_thrown v_mask v_key v_wait v_problem v_code v_length v_cond v_masks v_addr v_mwanted u_25 v_after v_calls v_oneB v_twoB)) hD hS hA [0] rfl
    refine va_callv (va_runV (As := [.int x0, .int 2]) (rest := []) ⟨hx, hb, hml, hown, hts⟩ (kX12_even l D cI cB a_mo a_mem a_mks a_mr a_cnt a_wd a_one a_two a_mmade a_mrest a_old H.size v_thrown v_mask v_key v_wait v_problem v_code v_length v_cond v_masks v_addr v_mwanted u_25 v_after v_calls v_oneB v_twoB x0 2 (by first | with_reducible assumption | decide | (unfold vp_in; decide))) (cwV 2 hts (gd_V wd_860 wd_861 wd_862 wd_807 wd_841) rfl rfl rfl hdX12_even ⟨Nat.le_of_ble_eq_true rfl, Nat.le_of_ble_eq_true rfl⟩) (preV_std (ci := 12) (q0 := 0) hPc hK hDc hNW rfl rfl) rfl rfl hl.1 rfl (lv_room (Nat.le_of_ble_eq_true rfl)) dX12_taken_31 ⟨Nat.zero_le _, Nat.zero_le _⟩) hS (fun q _ h => hFc q h) hFc (fun u_31 t9 H1 locs ht9 hvm9 hw9 hB9 hz9 hk9 hS => ?_)
    have eu_31 : u_31 = fX12_even x0 2 u_25 := hw9
    obtain ⟨hP, hD⟩ := back_std (w1 := (wX12_even cI cB a_mo a_mem a_mks a_mr a_cnt a_wd a_one a_two a_mmade a_mrest a_old v_thrown v_mask v_key v_wait v_problem v_code v_length v_cond v_masks v_addr v_mwanted u_31 v_after v_calls v_oneB v_twoB)) (w2 := (wX12_taken cI cB a_mo a_mem a_mks a_mr a_cnt a_wd a_one a_two a_mmade a_mrest a_old v_thrown v_mask v_key v_wait v_problem v_code v_length v_cond v_masks v_addr v_mwanted u_31 v_after v_calls v_oneB v_twoB v_mF v_mkF g_2.1)) (wr := [(a_mem, .inl (cI, 8192, .inl v_mF)), (a_mks, .inl (cI, 4, .inl v_mkF)), (a_wd, .inl (cI, 6, .inl g_2.1))]) hP hD [0] [1, 2, 3] [3, 0, 1, 2] rfl rfl (by decide) (by decide) hk9 hFc hB9 ht9 (by decide) rfl
    clear hB9 hk9 hz9 hvm9 ht9 hFc hPc hDc
    generalize H1 = H at hP hS ⊢
    refine lv_aload_n hx hb dX12_taken_34 rfl (lv_at hl 0 rfl) ?_
    refine va_get (D := D) (ci := 12) (v := .int u_31) (C := RX12) (T := TX12) (N := 26) hx hb hts in_X12 hown hK hP 0 rfl rfl 16 (by decide) q_1 (fun _ h9 => h9) rfl dX12_taken_35 ?_
    refine lv_if_le (tgt := 43) hx hb dX12_taken_38 (by decide) (fun c_38 => ?_) (fun c_38 => ?_)
    · skip
      refine lv_aload_n hx hb dX12_taken_43 rfl (lv_at hl 0 rfl) ?_
      refine va_get (D := D) (ci := 12) (v := .ref a_mem) (C := RX12) (T := TX12) (N := 26) hx hb hts in_X12 hown hK hP 0 rfl rfl 1 (by decide) q_2 (fun _ h9 => h9) rfl dX12_taken_44 ?_
      refine lv_iload_n hx hb dX12_taken_47 rfl (lv_at hl 1 rfl) ?_
      refine va_iald hx hb hK hP 1 0 rfl rfl (tk0 ha hw eu_25 eu_31 c_38) dX12_taken_48 ?_
      have hPc : va_P D vwCl (wX12_halvesOf cI cB  ) H := hP.sub [] rfl
      have hDc : va_D A (wX12_halvesOf cI cB  ) := hD.sub [] (by decide) rfl
      have hFc := va_free (wc := (wX12_halvesOf cI cB  )) hD hS hA [] rfl
      refine va_calli (va_runS (As := [.int ((v_mF (x0 : Int32).toNatClampNeg))]) (rest := []) ⟨hx, hb, hml, hown, hts⟩ (kX12_halvesOf l D cI cB  H.size  (v_mF (x0 : Int32).toNatClampNeg)) (va_cwS 1 hts (gd_S wd_1025 wd_1026 wd_807 wd_1023) rfl rfl rfl hdX12_halvesOf.2 ⟨Nat.le_of_ble_eq_true rfl, Nat.le_of_ble_eq_true rfl⟩) (preS_std hPc hK hDc hNW) rfl rfl hl.1 rfl (lv_room (Nat.le_of_ble_eq_true rfl)) dX12_taken_49 ⟨Nat.zero_le _, Nat.zero_le _⟩) hS (fun q _ h => hFc q h) hFc (fun r_49 u_49 t9 H1 locs ht9 hvm9 hw9 hB9 hz9 hk9 hS => ?_)
      have er_49 : r_49 = fX12_halvesOf (v_mF (x0 : Int32).toNatClampNeg) := hw9
      obtain ⟨hP, hD⟩ := back_std (w1 := (wX12_halvesOf cI cB  )) (w2 := (wX12_taken cI cB a_mo a_mem a_mks a_mr a_cnt a_wd a_one a_two a_mmade a_mrest a_old v_thrown v_mask v_key v_wait v_problem v_code v_length v_cond v_masks v_addr v_mwanted u_31 v_after v_calls v_oneB v_twoB v_mF v_mkF g_2.1)) (wr := [(a_mo, .inr (12, [.int v_thrown, .ref a_mem, .ref a_mks, .ref a_mr, .int v_mask, .int v_key, .int v_wait, .int v_problem, .int v_code, .int v_length, .int v_cond, .int v_masks, .int v_addr, .int v_mwanted, .ref a_cnt, .ref a_wd, .int u_31, .int v_after, .int v_calls, .ref a_one, .int v_oneB, .ref a_two, .int v_twoB, .ref a_mmade, .ref a_mrest, .ref a_old])), (a_mem, .inl (cI, 8192, .inl v_mF)), (a_mks, .inl (cI, 4, .inl v_mkF)), (a_wd, .inl (cI, 6, .inl g_2.1))]) hP hD [] [0, 1, 2, 3] [0, 1, 2, 3] rfl rfl (by decide) (by decide) hk9 hFc hB9 ht9 (by decide) rfl
      clear hB9 hk9 hz9 hvm9 ht9 hFc hPc hDc
      generalize H1 = H at hP hS ⊢
      refine lv_istore_n (lv' := [(2, .int r_49), (0, .ref a_mo), (1, .int x0)]) hx hb dX12_taken_52 rfl hl (by decide) rfl (fun ls hl => ?_)
      refine lv_aload_n hx hb dX12_taken_53 rfl (lv_at hl 1 rfl) ?_
      refine lv_iload_n hx hb dX12_taken_54 rfl (lv_at hl 2 rfl) ?_
      refine lv_iconst (v := 2) hx hb dX12_taken_55 (by decide) ?_
      refine lv_iload_n hx hb dX12_taken_56 rfl (lv_at hl 0 rfl) ?_
      refine lv_imul hx hb dX12_taken_57 ?_
      refine lv_iconst (v := 0) hx hb dX12_taken_58 (by decide) ?_
      have hPc : va_P D vwCl (wX12_look cI cB a_mo a_mem a_mks a_mr a_cnt a_wd a_one a_two a_mmade a_mrest a_old v_thrown v_mask v_key v_wait v_problem v_code v_length v_cond v_masks v_addr v_mwanted u_31 v_after v_calls v_oneB v_twoB v_mkF) H := hP.sub [0, 2] rfl
      have hDc : va_D A (wX12_look cI cB a_mo a_mem a_mks a_mr a_cnt a_wd a_one a_two a_mmade a_mrest a_old v_thrown v_mask v_key v_wait v_problem v_code v_length v_cond v_masks v_addr v_mwanted u_31 v_after v_calls v_oneB v_twoB v_mkF) := hD.sub [0, 2] (by decide) rfl
      have hFc := va_free (wc := (wX12_look cI cB a_mo a_mem a_mks a_mr a_cnt a_wd a_one a_two a_mmade a_mrest a_old v_thrown v_mask v_key v_wait v_problem v_code v_length v_cond v_masks v_addr v_mwanted u_31 v_after v_calls v_oneB v_twoB v_mkF)) hD hS hA [0, 2] rfl
      refine va_callv (va_runV (As := [.int x0, .int (2 * r_49), .int 0]) (rest := []) ⟨hx, hb, hml, hown, hts⟩ (kX12_look l D cI cB a_mo a_mem a_mks a_mr a_cnt a_wd a_one a_two a_mmade a_mrest a_old H.size v_thrown v_mask v_key v_wait v_problem v_code v_length v_cond v_masks v_addr v_mwanted u_31 v_after v_calls v_oneB v_twoB v_mkF x0 (2 * r_49) 0) (cwV 3 hts (gd_V wd_857 wd_858 wd_859 wd_807 wd_837) rfl rfl rfl hdX12_look ⟨Nat.le_of_ble_eq_true rfl, Nat.le_of_ble_eq_true rfl⟩) (preV_std (ci := 12) (q0 := 0) hPc hK hDc hNW rfl rfl) rfl rfl hl.1 rfl (lv_room (Nat.le_of_ble_eq_true rfl)) dX12_taken_59 ⟨Nat.zero_le _, Nat.zero_le _⟩) hS (fun q _ h => hFc q h) hFc (fun u_59 t9 H1 locs ht9 hvm9 hw9 hB9 hz9 hk9 hS => ?_)
      have eu_59 : u_59 = fX12_look x0 (2 * r_49) 0 v_key u_31 v_mkF := hw9
      obtain ⟨hP, hD⟩ := back_std (w1 := (wX12_look cI cB a_mo a_mem a_mks a_mr a_cnt a_wd a_one a_two a_mmade a_mrest a_old v_thrown v_mask v_key v_wait v_problem v_code v_length v_cond v_masks v_addr v_mwanted u_59 v_after v_calls v_oneB v_twoB v_mkF)) (w2 := (wX12_taken cI cB a_mo a_mem a_mks a_mr a_cnt a_wd a_one a_two a_mmade a_mrest a_old v_thrown v_mask v_key v_wait v_problem v_code v_length v_cond v_masks v_addr v_mwanted u_59 v_after v_calls v_oneB v_twoB v_mF v_mkF g_2.1)) (wr := [(a_mem, .inl (cI, 8192, .inl v_mF)), (a_wd, .inl (cI, 6, .inl g_2.1))]) hP hD [0, 2] [1, 3] [2, 0, 3, 1] rfl rfl (by decide) (by decide) hk9 hFc hB9 ht9 (by decide) rfl
      clear hB9 hk9 hz9 hvm9 ht9 hFc hPc hDc
      generalize H1 = H at hP hS ⊢
      refine lv_iconst (v := 0) hx hb dX12_taken_62 (by decide) ?_
      refine lv_istore_n (lv' := [(3, .int 0), (2, .int r_49), (0, .ref a_mo), (1, .int x0)]) hx hb dX12_taken_63 rfl hl (by decide) rfl (fun ls hl => ?_)
      obtain ⟨g_64, eg_64⟩ : ∃ z : ((Nat → Int32) × Int32), z = LX12_taken_64 x0 v_mF r_49 u_59 (msU (2 * r_49) 0 + 1) (g_2.1, 0) := ⟨_, rfl⟩
      have K_64_0 : ∀ (H : Heap) (locs : List Loc), va_P D vwCl (wX12_taken cI cB a_mo a_mem a_mks a_mr a_cnt a_wd a_one a_two a_mmade a_mrest a_old v_thrown v_mask v_key v_wait v_problem v_code v_length v_cond v_masks v_addr v_mwanted u_59 v_after v_calls v_oneB v_twoB v_mF v_mkF g_64.1) H → va_D A (wX12_taken cI cB a_mo a_mem a_mks a_mr a_cnt a_wd a_one a_two a_mmade a_mrest a_old v_thrown v_mask v_key v_wait v_problem v_code v_length v_cond v_masks v_addr v_mwanted u_59 v_after v_calls v_oneB v_twoB v_mF v_mkF g_64.1) → va_S A s.heap H locs → ∀ (ls : Array Slot), lv_has ls 4 [(0, .ref a_mo), (1, .int x0), (2, .int r_49), (3, .int g_64.2)] → W p l e rmX12_taken s m ([.ref a_mo, .int x0] : List Value).toArray below meth c H locs 0 0 (MQ below (qX12_taken D cI cB a_mo a_mem a_mks a_mr a_cnt a_wd a_one a_two a_mmade a_mrest a_old v_thrown v_mask v_key v_wait v_problem v_code v_length v_cond v_masks v_addr v_mwanted v_wrong v_after v_calls v_oneB v_twoB v_mF v_mkF v_wdF x0 A) ([.ref a_mo, .int x0] : List Value).toArray s 0 0 A) (F0 m 98 ls []) := by
        intro H locs hP hD hS ls hl
        refine lv_aload_n hx hb dX12_taken_98 rfl (lv_at hl 0 rfl) ?_
        refine va_get (D := D) (ci := 12) (v := .int u_59) (C := RX12) (T := TX12) (N := 26) hx hb hts in_X12 hown hK hP 0 rfl rfl 16 (by decide) q_1 (fun _ h9 => h9) rfl dX12_taken_99 ?_
        refine lv_if_ne (tgt := 109) hx hb dX12_taken_102 (by decide) (fun c_102 => ?_) (fun c_102 => ?_)
        · skip
          refine lv_iconst (v := 0) hx hb dX12_taken_109 (by decide) ?_
          have hf9 : (0, (u_59, g_64.1)) = fX12_taken x0 v_key v_wrong v_mF v_mkF v_wdF := by simp only [fX12_taken, ← eg_2, ← eu_25, ← eu_31, ← er_49, ← eu_59, ← eg_64]; (try simp only [if_pos c_38, if_neg c_102])
          exact W.zret hx hb hr (by decide) (fun t9 ht9 hW9 => ⟨⟨0, (u_59, g_64.1), rfl, ⟨by rw [← hf9], by rw [← hf9]⟩, ⟨by rw [ht9]; exact hP, va_K.moved hW9.alike hK, hD⟩⟩, hS.F ht9⟩) hS.2.2 dX12_taken_110
        · skip
          refine lv_iconst (v := 1) hx hb dX12_taken_105 (by decide) ?_
          refine lv_goto (tgt := 110) hx hb dX12_taken_106 (by decide) ?_
          have hf9 : (1, (u_59, g_64.1)) = fX12_taken x0 v_key v_wrong v_mF v_mkF v_wdF := by simp only [fX12_taken, ← eg_2, ← eu_25, ← eu_31, ← er_49, ← eu_59, ← eg_64]; (try simp only [if_pos c_38, if_pos c_102])
          exact W.zret hx hb hr (by decide) (fun t9 ht9 hW9 => ⟨⟨1, (u_59, g_64.1), rfl, ⟨by rw [← hf9], by rw [← hf9]⟩, ⟨by rw [ht9]; exact hP, va_K.moved hW9.alike hK, hD⟩⟩, hS.F ht9⟩) hS.2.2 dX12_taken_110
      have lp_64 : ∀ (n9 : Nat) (w_64 : ((Nat → Int32) × Int32)), msU (2 * r_49) w_64.2 < n9 → 0 ≤ w_64.2 → LX12_taken_64 x0 v_mF r_49 u_59 n9 w_64 = g_64 → ∀ (H : Heap) (locs : List Loc), va_P D vwCl (wX12_taken cI cB a_mo a_mem a_mks a_mr a_cnt a_wd a_one a_two a_mmade a_mrest a_old v_thrown v_mask v_key v_wait v_problem v_code v_length v_cond v_masks v_addr v_mwanted u_59 v_after v_calls v_oneB v_twoB v_mF v_mkF w_64.1) H → va_D A (wX12_taken cI cB a_mo a_mem a_mks a_mr a_cnt a_wd a_one a_two a_mmade a_mrest a_old v_thrown v_mask v_key v_wait v_problem v_code v_length v_cond v_masks v_addr v_mwanted u_59 v_after v_calls v_oneB v_twoB v_mF v_mkF w_64.1) → va_S A s.heap H locs → ∀ (ls : Array Slot), lv_has ls 4 [(0, .ref a_mo), (1, .int x0), (2, .int r_49), (3, .int w_64.2)] → W p l e rmX12_taken s m ([.ref a_mo, .int x0] : List Value).toArray below meth c H locs 0 0 (MQ below (qX12_taken D cI cB a_mo a_mem a_mks a_mr a_cnt a_wd a_one a_two a_mmade a_mrest a_old v_thrown v_mask v_key v_wait v_problem v_code v_length v_cond v_masks v_addr v_mwanted v_wrong v_after v_calls v_oneB v_twoB v_mF v_mkF v_wdF x0 A) ([.ref a_mo, .int x0] : List Value).toArray s 0 0 A) (F0 m 64 ls []) := by
        intro n9
        induction n9 with
        | zero => intro w_64 hm9; exact absurd hm9 (Nat.not_lt_zero _)
        | succ n9 ih =>
          intro w_64 hm9 hI9 hL9 H locs hP hD hS ls hl
          have hI_64 := hI9
          refine lv_iload_n hx hb dX12_taken_64 rfl (lv_at hl 3 rfl) ?_
          refine lv_iconst (v := 2) hx hb dX12_taken_65 (by decide) ?_
          refine lv_iload_n hx hb dX12_taken_66 rfl (lv_at hl 2 rfl) ?_
          refine lv_imul hx hb dX12_taken_67 ?_
          refine lv_icmp_ge (tgt := 98) hx hb dX12_taken_68 (by decide) (fun c_68 => ?_) (fun c_68 => ?_)
          · skip
            have hg9 : (w_64.1, w_64.2) = g_64 := by rw [← hL9]; simp only [LX12_taken_64]; (try simp only [if_pos c_68])
            subst hg9
            exact K_64_0 _ _ hP hD hS ls (lv_sub hl [0, 1, 2, 3] rfl)
          · skip
            refine lv_aload_n hx hb dX12_taken_71 rfl (lv_at hl 0 rfl) ?_
            refine va_get (D := D) (ci := 12) (v := .int u_59) (C := RX12) (T := TX12) (N := 26) hx hb hts in_X12 hown hK hP 0 rfl rfl 16 (by decide) q_1 (fun _ h9 => h9) rfl dX12_taken_72 ?_
            refine lv_if_ne (tgt := 98) hx hb dX12_taken_75 (by decide) (fun c_75 => ?_) (fun c_75 => ?_)
            · skip
              have hg9 : (w_64.1, w_64.2) = g_64 := by rw [← hL9]; simp only [LX12_taken_64]; (try simp only [if_neg c_68, if_neg c_75])
              subst hg9
              exact K_64_0 _ _ hP hD hS ls (lv_sub hl [0, 1, 2, 3] rfl)
            · skip
              refine lv_aload_n hx hb dX12_taken_78 rfl (lv_at hl 0 rfl) ?_
              refine va_get (D := D) (ci := 12) (v := .ref a_wd) (C := RX12) (T := TX12) (N := 26) hx hb hts in_X12 hown hK hP 0 rfl rfl 15 (by decide) q_0 (fun _ h9 => h9) rfl dX12_taken_79 ?_
              refine lv_iload_n hx hb dX12_taken_82 rfl (lv_at hl 3 rfl) ?_
              refine lv_aload_n hx hb dX12_taken_83 rfl (lv_at hl 0 rfl) ?_
              refine va_get (D := D) (ci := 12) (v := .ref a_mem) (C := RX12) (T := TX12) (N := 26) hx hb hts in_X12 hown hK hP 0 rfl rfl 1 (by decide) q_2 (fun _ h9 => h9) rfl dX12_taken_84 ?_
              refine lv_iload_n hx hb dX12_taken_87 rfl (lv_at hl 1 rfl) ?_
              refine lv_iload_n hx hb dX12_taken_88 rfl (lv_at hl 3 rfl) ?_
              refine lv_iadd hx hb dX12_taken_89 ?_
              refine va_iald hx hb hK hP 1 0 rfl rfl (inM_at (tk1 ha hw eu_25 eu_31 er_49 eu_59 c_75) hI9 c_68) dX12_taken_90 ?_
              refine va_iast hx hb hK hP hD hS 3 0 rfl rfl (vin6 er_49 hI9 c_68) dX12_taken_91 (fun H locs hP hD hS => ?_)
              obtain ⟨f_91, ef_91⟩ : ∃ z : Nat → Int32, z = upd w_64.1 (w_64.2 : Int32).toNatClampNeg ((v_mF ((x0 + w_64.2) : Int32).toNatClampNeg)) := ⟨_, rfl⟩
              have hP : va_P D vwCl (wX12_taken cI cB a_mo a_mem a_mks a_mr a_cnt a_wd a_one a_two a_mmade a_mrest a_old v_thrown v_mask v_key v_wait v_problem v_code v_length v_cond v_masks v_addr v_mwanted u_59 v_after v_calls v_oneB v_twoB v_mF v_mkF (upd w_64.1 (w_64.2 : Int32).toNatClampNeg ((v_mF ((x0 + w_64.2) : Int32).toNatClampNeg)))) H := hP
              have hD : va_D A (wX12_taken cI cB a_mo a_mem a_mks a_mr a_cnt a_wd a_one a_two a_mmade a_mrest a_old v_thrown v_mask v_key v_wait v_problem v_code v_length v_cond v_masks v_addr v_mwanted u_59 v_after v_calls v_oneB v_twoB v_mF v_mkF (upd w_64.1 (w_64.2 : Int32).toNatClampNeg ((v_mF ((x0 + w_64.2) : Int32).toNatClampNeg)))) := hD
              rw [← ef_91] at hP hD
              obtain ⟨x_92, ex_92⟩ : ∃ z : Int32, z = w_64.2 + 1 := ⟨_, rfl⟩
              refine lv_iinc (v := x_92) (lv' := [(3, .int x_92), (0, .ref a_mo), (1, .int x0), (2, .int r_49)]) hx hb dX12_taken_92 hl (k := 3) rfl (by rw [ex_92]; rfl) (by decide) rfl (fun ls hl => ?_)
              refine lv_goto (tgt := 64) hx hb dX12_taken_95 (by decide) ?_
              exact ih (f_91, x_92) (by subst ex_92; subst ef_91;  exact Nat.lt_of_lt_of_le (ms_up c_68) (Nat.le_of_lt_succ hm9)) (by subst ex_92; subst ef_91;  exact nn_up hI9 c_68) (by rw [← hL9]; subst ex_92; subst ef_91; simp only [LX12_taken_64]; (try simp only [if_neg c_68, if_pos c_75])) _ _ hP hD hS ls (lv_sub hl [1, 2, 3, 0] rfl)
      exact lp_64 (msU (2 * r_49) 0 + 1) (g_2.1, 0) (Nat.lt_succ_self _) (by show (0 : Int32) ≤ 0; decide) eg_64.symm _ _ hP hD hS ls (lv_sub hl [2, 3, 1, 0] rfl)
    · skip
      refine lv_iconst (v := 0) hx hb dX12_taken_41 (by decide) ?_
      have hf9 : (0, (u_31, g_2.1)) = fX12_taken x0 v_key v_wrong v_mF v_mkF v_wdF := by simp only [fX12_taken, ← eg_2, ← eu_25, ← eu_31]; (try simp only [if_neg c_38])
      exact W.zret hx hb hr (by decide) (fun t9 ht9 hW9 => ⟨⟨0, (u_31, g_2.1), rfl, ⟨by rw [← hf9], by rw [← hf9]⟩, ⟨by rw [ht9]; exact hP, va_K.moved hW9.alike hK, hD⟩⟩, hS.F ht9⟩) hS.2.2 dX12_taken_42
  have lp_2 : ∀ (n9 : Nat) (w_2 : ((Nat → Int32) × Int32)), msU 6 w_2.2 < n9 → 0 ≤ w_2.2 → LX12_taken_2  n9 w_2 = g_2 → ∀ (H : Heap) (locs : List Loc), va_P D vwCl (wX12_taken cI cB a_mo a_mem a_mks a_mr a_cnt a_wd a_one a_two a_mmade a_mrest a_old v_thrown v_mask v_key v_wait v_problem v_code v_length v_cond v_masks v_addr v_mwanted v_wrong v_after v_calls v_oneB v_twoB v_mF v_mkF w_2.1) H → va_D A (wX12_taken cI cB a_mo a_mem a_mks a_mr a_cnt a_wd a_one a_two a_mmade a_mrest a_old v_thrown v_mask v_key v_wait v_problem v_code v_length v_cond v_masks v_addr v_mwanted v_wrong v_after v_calls v_oneB v_twoB v_mF v_mkF w_2.1) → va_S A s.heap H locs → ∀ (ls : Array Slot), lv_has ls 4 [(0, .ref a_mo), (1, .int x0), (2, .int w_2.2)] → W p l e rmX12_taken s m ([.ref a_mo, .int x0] : List Value).toArray below meth c H locs 0 0 (MQ below (qX12_taken D cI cB a_mo a_mem a_mks a_mr a_cnt a_wd a_one a_two a_mmade a_mrest a_old v_thrown v_mask v_key v_wait v_problem v_code v_length v_cond v_masks v_addr v_mwanted v_wrong v_after v_calls v_oneB v_twoB v_mF v_mkF v_wdF x0 A) ([.ref a_mo, .int x0] : List Value).toArray s 0 0 A) (F0 m 2 ls []) := by
    intro n9
    induction n9 with
    | zero => intro w_2 hm9; exact absurd hm9 (Nat.not_lt_zero _)
    | succ n9 ih =>
      intro w_2 hm9 hI9 hL9 H locs hP hD hS ls hl
      have hI_2 := hI9
      refine lv_iload_n hx hb dX12_taken_2 rfl (lv_at hl 2 rfl) ?_
      refine lv_bipush (v := 6) hx hb dX12_taken_3 (by decide) ?_
      refine lv_icmp_ge (tgt := 21) hx hb dX12_taken_5 (by decide) (fun c_5 => ?_) (fun c_5 => ?_)
      · skip
        have hg9 : (w_2.1, w_2.2) = g_2 := by rw [← hL9]; simp only [LX12_taken_2]; (try simp only [if_pos c_5])
        subst hg9
        exact K_2_0 _ _ hP hD hS ls (lv_sub hl [0, 1, 2] rfl)
      · skip
        refine lv_aload_n hx hb dX12_taken_8 rfl (lv_at hl 0 rfl) ?_
        refine va_get (D := D) (ci := 12) (v := .ref a_wd) (C := RX12) (T := TX12) (N := 26) hx hb hts in_X12 hown hK hP 0 rfl rfl 15 (by decide) q_0 (fun _ h9 => h9) rfl dX12_taken_9 ?_
        refine lv_iload_n hx hb dX12_taken_12 rfl (lv_at hl 2 rfl) ?_
        refine lv_iconst (v := 0) hx hb dX12_taken_13 (by decide) ?_
        refine va_iast hx hb hK hP hD hS 3 0 rfl rfl (by first | with_reducible assumption | exact vin_of (b := 6) (by decide) (by with_reducible assumption) (by with_reducible assumption) | exact vin_of (b := 6) (by decide) (Int32.not_lt.mp (by with_reducible assumption)) (by with_reducible assumption) | exact vin_dn (by decide) (by with_reducible assumption) hI9) dX12_taken_14 (fun H locs hP hD hS => ?_)
        obtain ⟨f_14, ef_14⟩ : ∃ z : Nat → Int32, z = upd w_2.1 (w_2.2 : Int32).toNatClampNeg (0) := ⟨_, rfl⟩
        have hP : va_P D vwCl (wX12_taken cI cB a_mo a_mem a_mks a_mr a_cnt a_wd a_one a_two a_mmade a_mrest a_old v_thrown v_mask v_key v_wait v_problem v_code v_length v_cond v_masks v_addr v_mwanted v_wrong v_after v_calls v_oneB v_twoB v_mF v_mkF (upd w_2.1 (w_2.2 : Int32).toNatClampNeg (0))) H := hP
        have hD : va_D A (wX12_taken cI cB a_mo a_mem a_mks a_mr a_cnt a_wd a_one a_two a_mmade a_mrest a_old v_thrown v_mask v_key v_wait v_problem v_code v_length v_cond v_masks v_addr v_mwanted v_wrong v_after v_calls v_oneB v_twoB v_mF v_mkF (upd w_2.1 (w_2.2 : Int32).toNatClampNeg (0))) := hD
        rw [← ef_14] at hP hD
        obtain ⟨x_15, ex_15⟩ : ∃ z : Int32, z = w_2.2 + 1 := ⟨_, rfl⟩
        refine lv_iinc (v := x_15) (lv' := [(2, .int x_15), (0, .ref a_mo), (1, .int x0)]) hx hb dX12_taken_15 hl (k := 2) rfl (by rw [ex_15]; rfl) (by decide) rfl (fun ls hl => ?_)
        refine lv_goto (tgt := 2) hx hb dX12_taken_18 (by decide) ?_
        exact ih (f_14, x_15) (by subst ex_15; subst ef_14;  exact Nat.lt_of_lt_of_le (ms_up c_5) (Nat.le_of_lt_succ hm9)) (by subst ex_15; subst ef_14;  exact nn_up hI9 c_5) (by rw [← hL9]; subst ex_15; subst ef_14; simp only [LX12_taken_2]; (try simp only [if_neg c_5])) _ _ hP hD hS ls (lv_sub hl [1, 2, 0] rfl)
  exact lp_2 (msU 6 0 + 1) (v_wdF, 0) (Nat.lt_succ_self _) (by show (0 : Int32) ≤ 0; decide) eg_2.symm _ _ hP hD hS ls (lv_sub hl [1, 2, 0] rfl)
theorem hdX12_taken : yX12_taken.cls = RX12 ∧ yX12_taken.cls ≠ "java/lang/invoke/MethodHandle" ∧ yX12_taken.cls ≠ "java/lang/invoke/VarHandle" ∧ (parseMethodDescriptor yX12_taken.desc).map (fun d => d.parameters.length) = some 1 := by decide +kernel
