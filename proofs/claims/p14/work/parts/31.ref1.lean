noncomputable def fX12_meet (x0 : Int32) (v_wrong : Int32) : Int32 :=
  let m_24 : Int32 := (if v_wrong = 0 then (x0) else (if v_wrong ≤ x0 then (v_wrong) else (x0)))
  m_24
abbrev wX12_meet (cI cB : ClassId) (a_mo a_mem a_mks a_mr a_cnt a_wd a_one a_two a_mmade a_mrest a_old : Nat) (v_thrown : Int32) (v_mask : Int32) (v_key : Int32) (v_wait : Int32) (v_problem : Int32) (v_code : Int32) (v_length : Int32) (v_cond : Int32) (v_masks : Int32) (v_addr : Int32) (v_mwanted : Int32) (v_wrong : Int32) (v_after : Int32) (v_calls : Int32) (v_oneB : Int32) (v_twoB : Int32) : va_W := [(a_mo, .inr (12, [.int v_thrown, .ref a_mem, .ref a_mks, .ref a_mr, .int v_mask, .int v_key, .int v_wait, .int v_problem, .int v_code, .int v_length, .int v_cond, .int v_masks, .int v_addr, .int v_mwanted, .ref a_cnt, .ref a_wd, .int v_wrong, .int v_after, .int v_calls, .ref a_one, .int v_oneB, .ref a_two, .int v_twoB, .ref a_mmade, .ref a_mrest, .ref a_old]))]
abbrev rmX12_meet : Room := { frames := 0, cells := 0, slots := 0, locals := 0 }
abbrev qX12_meet (D : va_G) (cI cB : ClassId) (a_mo a_mem a_mks a_mr a_cnt a_wd a_one a_two a_mmade a_mrest a_old : Nat) (v_thrown : Int32) (v_mask : Int32) (v_key : Int32) (v_wait : Int32) (v_problem : Int32) (v_code : Int32) (v_length : Int32) (v_cond : Int32) (v_masks : Int32) (v_addr : Int32) (v_mwanted : Int32) (v_wrong : Int32) (v_after : Int32) (v_calls : Int32) (v_oneB : Int32) (v_twoB : Int32) (x0 : Int32) : (Nat → Prop) → Array Value → State → Outcome → State → Prop := fun A9 => va_Qv (fun (u9 : Int32) => u9 = fX12_meet x0 v_wrong) (fun u9 t9 => atW D (TYS cI cB) A9 (wX12_meet cI cB a_mo a_mem a_mks a_mr a_cnt a_wd a_one a_two a_mmade a_mrest a_old v_thrown v_mask v_key v_wait v_problem v_code v_length v_cond v_masks v_addr v_mwanted u9 v_after v_calls v_oneB v_twoB) t9) A9
set_option maxHeartbeats 4000000 in
set_option maxRecDepth 100000 in
theorem kX12_meet (l : Launch) (D : va_G) (cI cB : ClassId) (a_mo a_mem a_mks a_mr a_cnt a_wd a_one a_two a_mmade a_mrest a_old : Nat) (sz : Nat) (v_thrown : Int32) (v_mask : Int32) (v_key : Int32) (v_wait : Int32) (v_problem : Int32) (v_code : Int32) (v_length : Int32) (v_cond : Int32) (v_masks : Int32) (v_addr : Int32) (v_mwanted : Int32) (v_wrong : Int32) (v_after : Int32) (v_calls : Int32) (v_oneB : Int32) (v_twoB : Int32) (x0 : Int32) : MetW l yX12_meet (WK yX12_meet cX12_meet 2 none) rmX12_meet D (TYS cI cB) (wX12_meet cI cB a_mo a_mem a_mks a_mr a_cnt a_wd a_one a_two a_mmade a_mrest a_old v_thrown v_mask v_key v_wait v_problem v_code v_length v_cond v_masks v_addr v_mwanted v_wrong v_after v_calls v_oneB v_twoB) sz [.ref a_mo, .int x0] (qX12_meet D cI cB a_mo a_mem a_mks a_mr a_cnt a_wd a_one a_two a_mmade a_mrest a_old v_thrown v_mask v_key v_wait v_problem v_code v_length v_cond v_masks v_addr v_mwanted v_wrong v_after v_calls v_oneB v_twoB x0) 0 0 := by
  refine met_std (by decide) rfl (Nat.le_of_ble_eq_true rfl) ?_
  intro p e s m below meth c A ls H hx hb hr hml hown hts hlocks hA hP hK hD hS hNW hl
  have hl : lv_has ls 2 [(0, .ref a_mo), (1, .int x0)] := hl
  have q_0 := hts _ (List.mem_cons_of_mem _ wd_836)
  refine lv_aload_n hx hb dX12_meet_0 rfl (lv_at hl 0 rfl) ?_
  refine lv_aload_n hx hb dX12_meet_1 rfl (lv_at hl 0 rfl) ?_
  refine va_get (D := D) (ci := 12) (v := .int v_wrong) (C := RX12) (T := TX12) (N := 26) hx hb hts in_X12 hown hK hP 0 rfl rfl 16 (by decide) q_0 (fun _ h9 => h9) rfl dX12_meet_2 ?_
  have J_24 : ∀ (m_24 : Int32), m_24 = (if v_wrong = 0 then (x0) else (if v_wrong ≤ x0 then (v_wrong) else (x0))) → ∀ (H : Heap) (locs : List Loc), va_P D vwCl (wX12_meet cI cB a_mo a_mem a_mks a_mr a_cnt a_wd a_one a_two a_mmade a_mrest a_old v_thrown v_mask v_key v_wait v_problem v_code v_length v_cond v_masks v_addr v_mwanted v_wrong v_after v_calls v_oneB v_twoB) H → va_D A (wX12_meet cI cB a_mo a_mem a_mks a_mr a_cnt a_wd a_one a_two a_mmade a_mrest a_old v_thrown v_mask v_key v_wait v_problem v_code v_length v_cond v_masks v_addr v_mwanted v_wrong v_after v_calls v_oneB v_twoB) → va_S A s.heap H locs → ∀ (ls : Array Slot), lv_has ls 2 [(0, .ref a_mo), (1, .int x0)] → W p l e rmX12_meet s m ([.ref a_mo, .int x0] : List Value).toArray below meth c H locs 0 0 (MQ below (qX12_meet D cI cB a_mo a_mem a_mks a_mr a_cnt a_wd a_one a_two a_mmade a_mrest a_old v_thrown v_mask v_key v_wait v_problem v_code v_length v_cond v_masks v_addr v_mwanted v_wrong v_after v_calls v_oneB v_twoB x0 A) ([.ref a_mo, .int x0] : List Value).toArray s 0 0 A) (F0 m 24 ls [.int m_24, .ref a_mo]) := by
    intro m_24 em_24 H locs hP hD hS ls hl
    try dsimp only at em_24
    refine va_put (D := D) (ci := 12) (v := .int m_24) (ty := .int) (C := RX12) (T := TX12) (N := 26) hx hb hts in_X12 tyX12 tyX12_ok nmX12 hown hK hP hD hS 0 rfl rfl 16 (by decide) q_0 (fun _ h9 => h9) rfl (by decide +kernel) rfl rfl (Nat.le_of_ble_eq_true rfl) dX12_meet_24 (fun H locs hP hD hS => ?_)
    have hP : va_P D vwCl (wX12_meet cI cB a_mo a_mem a_mks a_mr a_cnt a_wd a_one a_two a_mmade a_mrest a_old v_thrown v_mask v_key v_wait v_problem v_code v_length v_cond v_masks v_addr v_mwanted m_24 v_after v_calls v_oneB v_twoB) H := hP
    have hD : va_D A (wX12_meet cI cB a_mo a_mem a_mks a_mr a_cnt a_wd a_one a_two a_mmade a_mrest a_old v_thrown v_mask v_key v_wait v_problem v_code v_length v_cond v_masks v_addr v_mwanted m_24 v_after v_calls v_oneB v_twoB) := hD
    have hf9 : m_24 = fX12_meet x0 v_wrong := by simp only [fX12_meet, ← em_24]
    exact W.vret hx hb hr (fun t9 ht9 hW9 => ⟨⟨m_24, rfl, hf9, ⟨by rw [ht9]; exact hP, va_K.moved hW9.alike hK, hD⟩⟩, hS.F ht9⟩) hS.2.2 dX12_meet_27
  refine lv_if_eq (tgt := 16) hx hb dX12_meet_5 (by decide) (fun c_5 => ?_) (fun c_5 => ?_)
  · skip
    refine lv_iload_n hx hb dX12_meet_16 rfl (lv_at hl 1 rfl) ?_
    refine lv_goto (tgt := 24) hx hb dX12_meet_17 (by decide) ?_
    exact J_24 x0 (by (try simp only [if_pos c_5])) _ _ hP hD hS ls (lv_sub hl [0, 1] rfl)
  · skip
    refine lv_iload_n hx hb dX12_meet_8 rfl (lv_at hl 1 rfl) ?_
    refine lv_aload_n hx hb dX12_meet_9 rfl (lv_at hl 0 rfl) ?_
    refine va_get (D := D) (ci := 12) (v := .int v_wrong) (C := RX12) (T := TX12) (N := 26) hx hb hts in_X12 hown hK hP 0 rfl rfl 16 (by decide) q_0 (fun _ h9 => h9) rfl dX12_meet_10 ?_
    refine lv_icmp_ge (tgt := 20) hx hb dX12_meet_13 (by decide) (fun c_13 => ?_) (fun c_13 => ?_)
    · skip
      refine lv_aload_n hx hb dX12_meet_20 rfl (lv_at hl 0 rfl) ?_
      refine va_get (D := D) (ci := 12) (v := .int v_wrong) (C := RX12) (T := TX12) (N := 26) hx hb hts in_X12 hown hK hP 0 rfl rfl 16 (by decide) q_0 (fun _ h9 => h9) rfl dX12_meet_21 ?_
      exact J_24 v_wrong (by (try simp only [if_neg c_5, if_pos c_13])) _ _ hP hD hS ls (lv_sub hl [0, 1] rfl)
    · skip
      refine lv_iload_n hx hb dX12_meet_16 rfl (lv_at hl 1 rfl) ?_
      refine lv_goto (tgt := 24) hx hb dX12_meet_17 (by decide) ?_
      exact J_24 x0 (by (try simp only [if_neg c_5, if_neg c_13])) _ _ hP hD hS ls (lv_sub hl [0, 1] rfl)
theorem hdX12_meet : yX12_meet.cls = RX12 ∧ yX12_meet.cls ≠ "java/lang/invoke/MethodHandle" ∧ yX12_meet.cls ≠ "java/lang/invoke/VarHandle" ∧ (parseMethodDescriptor yX12_meet.desc).map (fun d => d.parameters.length) = some 1 := by decide +kernel
noncomputable def LX12_look_3 (x0 : Int32) (x1 : Int32) (x2 : Int32) (v_key : Int32) (v_mkF : (Nat → Int32)) : Nat → (Int32 × Int32) → (Int32 × Int32)
  | 0, w_3 => w_3
  | n9 + 1, w_3 =>
    if x1 ≤ w_3.2 then ((w_3.1, w_3.2)) else (let x_16 := ((x0 + w_3.2) &&& 16777215); let m_93 : Int32 := (if x_16 < 8192 then (let x_44 := (v_mkF ((x_16 >>> (11 &&& 31)) : Int32).toNatClampNeg); let m_69 : Int32 := (if v_key = 0 then (0) else (if (x_44 >>> (1 &&& 31)) = v_key then (0) else (1))); if m_69 = 0 then (w_3.1) else (if x2 = 0 then (if (x_44 &&& 1) = 1 then (let u_90 := fX12_meet 4 w_3.1; u_90) else (w_3.1)) else (let u_90 := fX12_meet 4 w_3.1; u_90))) else (let u_28 := fX12_meet 5 w_3.1; u_28)); let x_93 := w_3.2 + 1; LX12_look_3 x0 x1 x2 v_key v_mkF n9 (m_93, x_93))
noncomputable def fX12_look (x0 : Int32) (x1 : Int32) (x2 : Int32) (v_key : Int32) (v_wrong : Int32) (v_mkF : (Nat → Int32)) : Int32 :=
  let g_3 := LX12_look_3 x0 x1 x2 v_key v_mkF (msU x1 0 + 1) (v_wrong, 0)
  g_3.1
abbrev wX12_look (cI cB : ClassId) (a_mo a_mem a_mks a_mr a_cnt a_wd a_one a_two a_mmade a_mrest a_old : Nat) (v_thrown : Int32) (v_mask : Int32) (v_key : Int32) (v_wait : Int32) (v_problem : Int32) (v_code : Int32) (v_length : Int32) (v_cond : Int32) (v_masks : Int32) (v_addr : Int32) (v_mwanted : Int32) (v_wrong : Int32) (v_after : Int32) (v_calls : Int32) (v_oneB : Int32) (v_twoB : Int32) (v_mkF : (Nat → Int32)) : va_W := [(a_mo, .inr (12, [.int v_thrown, .ref a_mem, .ref a_mks, .ref a_mr, .int v_mask, .int v_key, .int v_wait, .int v_problem, .int v_code, .int v_length, .int v_cond, .int v_masks, .int v_addr, .int v_mwanted, .ref a_cnt, .ref a_wd, .int v_wrong, .int v_after, .int v_calls, .ref a_one, .int v_oneB, .ref a_two, .int v_twoB, .ref a_mmade, .ref a_mrest, .ref a_old])), (a_mks, .inl (cI, 4, .inl v_mkF))]
abbrev rmX12_look : Room := { frames := 1, cells := 0, slots := 0, locals := 21 }
abbrev qX12_look (D : va_G) (cI cB : ClassId) (a_mo a_mem a_mks a_mr a_cnt a_wd a_one a_two a_mmade a_mrest a_old : Nat) (v_thrown : Int32) (v_mask : Int32) (v_key : Int32) (v_wait : Int32) (v_problem : Int32) (v_code : Int32) (v_length : Int32) (v_cond : Int32) (v_masks : Int32) (v_addr : Int32) (v_mwanted : Int32) (v_wrong : Int32) (v_after : Int32) (v_calls : Int32) (v_oneB : Int32) (v_twoB : Int32) (v_mkF : (Nat → Int32)) (x0 : Int32) (x1 : Int32) (x2 : Int32) : (Nat → Prop) → Array Value → State → Outcome → State → Prop := fun A9 => va_Qv (fun (u9 : Int32) => u9 = fX12_look x0 x1 x2 v_key v_wrong v_mkF) (fun u9 t9 => atW D (TYS cI cB) A9 (wX12_look cI cB a_mo a_mem a_mks a_mr a_cnt a_wd a_one a_two a_mmade a_mrest a_old v_thrown v_mask v_key v_wait v_problem v_code v_length v_cond v_masks v_addr v_mwanted u9 v_after v_calls v_oneB v_twoB v_mkF) t9) A9
set_option maxHeartbeats 4000000 in
set_option maxRecDepth 100000 in
theorem kX12_look (l : Launch) (D : va_G) (cI cB : ClassId) (a_mo a_mem a_mks a_mr a_cnt a_wd a_one a_two a_mmade a_mrest a_old : Nat) (sz : Nat) (v_thrown : Int32) (v_mask : Int32) (v_key : Int32) (v_wait : Int32) (v_problem : Int32) (v_code : Int32) (v_length : Int32) (v_cond : Int32) (v_masks : Int32) (v_addr : Int32) (v_mwanted : Int32) (v_wrong : Int32) (v_after : Int32) (v_calls : Int32) (v_oneB : Int32) (v_twoB : Int32) (v_mkF : (Nat → Int32)) (x0 : Int32) (x1 : Int32) (x2 : Int32) : MetW l yX12_look (WK yX12_look cX12_look 8 none) rmX12_look D (TYS cI cB) (wX12_look cI cB a_mo a_mem a_mks a_mr a_cnt a_wd a_one a_two a_mmade a_mrest a_old v_thrown v_mask v_key v_wait v_problem v_code v_length v_cond v_masks v_addr v_mwanted v_wrong v_after v_calls v_oneB v_twoB v_mkF) sz [.ref a_mo, .int x0, .int x1, .int x2] (qX12_look D cI cB a_mo a_mem a_mks a_mr a_cnt a_wd a_one a_two a_mmade a_mrest a_old v_thrown v_mask v_key v_wait v_problem v_code v_length v_cond v_masks v_addr v_mwanted v_wrong v_after v_calls v_oneB v_twoB v_mkF x0 x1 x2) 0 0 := by
  refine met_std (by decide) rfl (Nat.le_of_ble_eq_true rfl) ?_
  intro p e s m below meth c A ls H hx hb hr hml hown hts hlocks hA hP hK hD hS hNW hl
  have hl : lv_has ls 8 [(0, .ref a_mo), (1, .int x0), (2, .int x1), (3, .int x2)] := hl
  have q_0 := hts _ (List.mem_cons_of_mem _ wd_810)
  have q_1 := hts _ (List.mem_cons_of_mem _ wd_778)
  have q_2 := hts _ (List.mem_cons_of_mem _ wd_797)
  refine lv_iconst (v := 0) hx hb dX12_look_0 (by decide) ?_
  refine lv_istore (lv' := [(4, .int 0), (0, .ref a_mo), (1, .int x0), (2, .int x1), (3, .int x2)]) hx hb dX12_look_1 hl (by decide) rfl (fun ls hl => ?_)
  obtain ⟨g_3, eg_3⟩ : ∃ z : (Int32 × Int32), z = LX12_look_3 x0 x1 x2 v_key v_mkF (msU x1 0 + 1) (v_wrong, 0) := ⟨_, rfl⟩
  have K_3_0 : ∀ (H : Heap) (locs : List Loc), va_P D vwCl (wX12_look cI cB a_mo a_mem a_mks a_mr a_cnt a_wd a_one a_two a_mmade a_mrest a_old v_thrown v_mask v_key v_wait v_problem v_code v_length v_cond v_masks v_addr v_mwanted g_3.1 v_after v_calls v_oneB v_twoB v_mkF) H → va_D A (wX12_look cI cB a_mo a_mem a_mks a_mr a_cnt a_wd a_one a_two a_mmade a_mrest a_old v_thrown v_mask v_key v_wait v_problem v_code v_length v_cond v_masks v_addr v_mwanted g_3.1 v_after v_calls v_oneB v_twoB v_mkF) → va_S A s.heap H locs → ∀ (ls : Array Slot), lv_has ls 8 [(0, .ref a_mo), (1, .int x0), (2, .int x1), (3, .int x2), (4, .int g_3.2)] → W p l e rmX12_look s m ([.ref a_mo, .int x0, .int x1, .int x2] : List Value).toArray below meth c H locs 0 0 (MQ below (qX12_look D cI cB a_mo a_mem a_mks a_mr a_cnt a_wd a_one a_two a_mmade a_mrest a_old v_thrown v_mask v_key v_wait v_problem v_code v_length v_cond v_masks v_addr v_mwanted v_wrong v_after v_calls v_oneB v_twoB v_mkF x0 x1 x2 A) ([.ref a_mo, .int x0, .int x1, .int x2] : List Value).toArray s 0 0 A) (F0 m 99 ls []) := by
    intro H locs hP hD hS ls hl
    have hf9 : g_3.1 = fX12_look x0 x1 x2 v_key v_wrong v_mkF := by simp only [fX12_look, ← eg_3]
    exact W.vret hx hb hr (fun t9 ht9 hW9 => ⟨⟨g_3.1, rfl, hf9, ⟨by rw [ht9]; exact hP, va_K.moved hW9.alike hK, hD⟩⟩, hS.F ht9⟩) hS.2.2 dX12_look_99
  have lp_3 : ∀ (n9 : Nat) (w_3 : (Int32 × Int32)), msU x1 w_3.2 < n9 → LX12_look_3 x0 x1 x2 v_key v_mkF n9 w_3 = g_3 → ∀ (H : Heap) (locs : List Loc), va_P D vwCl (wX12_look cI cB a_mo a_mem a_mks a_mr a_cnt a_wd a_one a_two a_mmade a_mrest a_old v_thrown v_mask v_key v_wait v_problem v_code v_length v_cond v_masks v_addr v_mwanted w_3.1 v_after v_calls v_oneB v_twoB v_mkF) H → va_D A (wX12_look cI cB a_mo a_mem a_mks a_mr a_cnt a_wd a_one a_two a_mmade a_mrest a_old v_thrown v_mask v_key v_wait v_problem v_code v_length v_cond v_masks v_addr v_mwanted w_3.1 v_after v_calls v_oneB v_twoB v_mkF) → va_S A s.heap H locs → ∀ (ls : Array Slot), lv_has ls 8 [(0, .ref a_mo), (1, .int x0), (2, .int x1), (3, .int x2), (4, .int w_3.2)] → W p l e rmX12_look s m ([.ref a_mo, .int x0, .int x1, .int x2] : List Value).toArray below meth c H locs 0 0 (MQ below (qX12_look D cI cB a_mo a_mem a_mks a_mr a_cnt a_wd a_one a_two a_mmade a_mrest a_old v_thrown v_mask v_key v_wait v_problem v_code v_length v_cond v_masks v_addr v_mwanted v_wrong v_after v_calls v_oneB v_twoB v_mkF x0 x1 x2 A) ([.ref a_mo, .int x0, .int x1, .int x2] : List Value).toArray s 0 0 A) (F0 m 3 ls []) := by
    intro n9
    induction n9 with
    | zero => intro w_3 hm9; exact absurd hm9 (Nat.not_lt_zero _)
    | succ n9 ih =>
      intro w_3 hm9 hL9 H locs hP hD hS ls hl
      refine lv_iload hx hb dX12_look_3 (lv_at hl 4 rfl) ?_
      refine lv_iload_n hx hb dX12_look_5 rfl (lv_at hl 2 rfl) ?_
      refine lv_icmp_ge (tgt := 99) hx hb dX12_look_6 (by decide) (fun c_6 => ?_) (fun c_6 => ?_)
      · skip
        have hg9 : (w_3.1, w_3.2) = g_3 := by rw [← hL9]; simp only [LX12_look_3]; (try simp only [if_pos c_6])
        subst hg9
        exact K_3_0 _ _ hP hD hS ls (lv_sub hl [0, 1, 2, 3, 4] rfl)
      · skip
        refine lv_iload_n hx hb dX12_look_9 rfl (lv_at hl 1 rfl) ?_
        refine lv_iload hx hb dX12_look_10 (lv_at hl 4 rfl) ?_
        refine lv_iadd hx hb dX12_look_12 ?_
        refine lv_ldc (v := 16777215) hx hb hown q_0 dX12_look_13 ?_
        refine lv_iand hx hb dX12_look_15 ?_
        refine lv_topi (fun x_16 ex_16 => ?_)
        refine lv_istore (lv' := [(5, .int x_16), (0, .ref a_mo), (1, .int x0), (2, .int x1), (3, .int x2), (4, .int w_3.2)]) hx hb dX12_look_16 hl (by decide) rfl (fun ls hl => ?_)
        refine lv_iload hx hb dX12_look_18 (lv_at hl 0 rfl) ?_
        refine lv_sipush (v := 8192) hx hb dX12_look_20 (by decide) ?_
        have J_93 : ∀ (m_93 : Int32), m_93 = (if x_16 < 8192 then (let x_44 := (v_mkF ((x_16 >>> (11 &&& 31)) : Int32).toNatClampNeg); let m_69 : Int32 := (if v_key = 0 then (0) else (if (x_44 >>> (1 &&& 31)) = v_key then (0) else (1))); if m_69 = 0 then (w_3.1) else (if x2 = 0 then (if (x_44 &&& 1) = 1 then (let u_90 := fX12_meet 4 w_3.1; u_90) else (w_3.1)) else (let u_90 := fX12_meet 4 w_3.1; u_90))) else (let u_28 := fX12_meet 5 w_3.1; u_28)) → ∀ (H : Heap) (locs : List Loc), va_P D vwCl (wX12_look cI cB a_mo a_mem a_mks a_mr a_cnt a_wd a_one a_two a_mmade a_mrest a_old v_thrown v_mask v_key v_wait v_problem v_code v_length v_cond v_masks v_addr v_mwanted m_93 v_after v_calls v_oneB v_twoB v_mkF) H → va_D A (wX12_look cI cB a_mo a_mem a_mks a_mr a_cnt a_wd a_one a_two a_mmade a_mrest a_old v_thrown v_mask v_key v_wait v_problem v_code v_length v_cond v_masks v_addr v_mwanted m_93 v_after v_calls v_oneB v_twoB v_mkF) → va_S A s.heap H locs → ∀ (ls : Array Slot), lv_has ls 8 [(0, .ref a_mo), (1, .int x0), (2, .int x1), (3, .int x2), (4, .int w_3.2), (5, .int x_16)] → W p l e rmX12_look s m ([.ref a_mo, .int x0, .int x1, .int x2] : List Value).toArray below meth c H locs 0 0 (MQ below (qX12_look D cI cB a_mo a_mem a_mks a_mr a_cnt a_wd a_one a_two a_mmade a_mrest a_old v_thrown v_mask v_key v_wait v_problem v_code v_length v_cond v_masks v_addr v_mwanted v_wrong v_after v_calls v_oneB v_twoB v_mkF x0 x1 x2 A) ([.ref a_mo, .int x0, .int x1, .int x2] : List Value).toArray s 0 0 A) (F0 m 93 ls []) := by
          intro m_93 em_93 H locs hP hD hS ls hl
          try dsimp only at em_93
          obtain ⟨x_93, ex_93⟩ : ∃ z : Int32, z = w_3.2 + 1 := ⟨_, rfl⟩
          refine lv_iinc (v := x_93) (lv' := [(4, .int x_93), (0, .ref a_mo), (1, .int x0), (2, .int x1), (3, .int x2), (5, .int x_16)]) hx hb dX12_look_93 hl (k := 4) rfl (by rw [ex_93]; rfl) (by decide) rfl (fun ls hl => ?_)
          refine lv_goto (tgt := 3) hx hb dX12_look_96 (by decide) ?_
          exact ih (m_93, x_93) (by subst ex_93; subst em_93; subst ex_16;  exact Nat.lt_of_lt_of_le (ms_up c_6) (Nat.le_of_lt_succ hm9)) (by rw [← hL9]; subst ex_93; subst ex_16; simp only [LX12_look_3, ← em_93]; (try simp only [if_neg c_6])) _ _ hP hD hS ls (lv_sub hl [1, 2, 3, 4, 0] rfl)
        refine lv_icmp_lt (tgt := 34) hx hb dX12_look_23 (by decide) (fun c_23 => ?_) (fun c_23 => ?_)
        · skip
          refine lv_aload_n hx hb dX12_look_34 rfl (lv_at hl 1 rfl) ?_
          refine va_get (D := D) (ci := 12) (v := .ref a_mks) (C := RX12) (T := TX12) (N := 26) hx hb hts in_X12 hown hK hP 0 rfl rfl 2 (by decide) q_1 (fun _ h9 => h9) rfl dX12_look_35 ?_
          refine lv_iload hx hb dX12_look_38 (lv_at hl 0 rfl) ?_
          refine lv_bipush (v := 11) hx hb dX12_look_40 (by decide) ?_
          refine lv_ishr hx hb dX12_look_42 ?_
          refine va_iald hx hb hK hP 1 0 rfl rfl (at11 ex_16 c_23) dX12_look_43 ?_
          refine lv_topi (fun x_44 ex_44 => ?_)
          refine lv_istore (lv' := [(6, .int x_44), (5, .int x_16), (0, .ref a_mo), (1, .int x0), (2, .int x1), (3, .int x2), (4, .int w_3.2)]) hx hb dX12_look_44 hl (by decide) rfl (fun ls hl => ?_)
          refine lv_aload_n hx hb dX12_look_46 rfl (lv_at hl 2 rfl) ?_
          refine va_get (D := D) (ci := 12) (v := .int v_key) (C := RX12) (T := TX12) (N := 26) hx hb hts in_X12 hown hK hP 0 rfl rfl 5 (by decide) q_2 (fun _ h9 => h9) rfl dX12_look_47 ?_
          have J_69 : ∀ (m_69 : Int32), m_69 = (if v_key = 0 then (0) else (if (x_44 >>> (1 &&& 31)) = v_key then (0) else (1))) → ∀ (H : Heap) (locs : List Loc), va_P D vwCl (wX12_look cI cB a_mo a_mem a_mks a_mr a_cnt a_wd a_one a_two a_mmade a_mrest a_old v_thrown v_mask v_key v_wait v_problem v_code v_length v_cond v_masks v_addr v_mwanted w_3.1 v_after v_calls v_oneB v_twoB v_mkF) H → va_D A (wX12_look cI cB a_mo a_mem a_mks a_mr a_cnt a_wd a_one a_two a_mmade a_mrest a_old v_thrown v_mask v_key v_wait v_problem v_code v_length v_cond v_masks v_addr v_mwanted w_3.1 v_after v_calls v_oneB v_twoB v_mkF) → va_S A s.heap H locs → ∀ (ls : Array Slot), lv_has ls 8 [(0, .ref a_mo), (1, .int x0), (2, .int x1), (3, .int x2), (4, .int w_3.2), (5, .int x_16), (6, .int x_44)] → W p l e rmX12_look s m ([.ref a_mo, .int x0, .int x1, .int x2] : List Value).toArray below meth c H locs 0 0 (MQ below (qX12_look D cI cB a_mo a_mem a_mks a_mr a_cnt a_wd a_one a_two a_mmade a_mrest a_old v_thrown v_mask v_key v_wait v_problem v_code v_length v_cond v_masks v_addr v_mwanted v_wrong v_after v_calls v_oneB v_twoB v_mkF x0 x1 x2 A) ([.ref a_mo, .int x0, .int x1, .int x2] : List Value).toArray s 0 0 A) (F0 m 69 ls [.int m_69]) := by
            intro m_69 em_69 H locs hP hD hS ls hl
            try dsimp only at em_69
            have zm_69_0 : m_69 = 0 ∨ m_69 = 1 := by rw [em_69]; (try dsimp only); (repeat' split) <;> first | exact Or.inl rfl | exact Or.inr rfl
            refine lv_istore (lv' := [(7, .int m_69), (0, .ref a_mo), (1, .int x0), (2, .int x1), (3, .int x2), (4, .int w_3.2), (5, .int x_16), (6, .int x_44)]) hx hb dX12_look_69 hl (by decide) rfl (fun ls hl => ?_)
            refine lv_iload hx hb dX12_look_71 (lv_at hl 0 rfl) ?_
            refine lv_if_eq (tgt := 93) hx hb dX12_look_73 (by decide) (fun c_73 => ?_) (fun c_73 => ?_)
            · skip
              exact J_93 w_3.1 (by subst ex_44; (try simp only [← em_69]); (try simp only [if_pos c_23, if_pos c_73])) _ _ hP hD hS ls (lv_sub hl [1, 2, 3, 4, 5, 6] rfl)
            · skip
              refine lv_iload_n hx hb dX12_look_76 rfl (lv_at hl 4 rfl) ?_
              refine lv_if_ne (tgt := 88) hx hb dX12_look_77 (by decide) (fun c_77 => ?_) (fun c_77 => ?_)
              · skip
                refine lv_aload_n hx hb dX12_look_88 rfl (lv_at hl 1 rfl) ?_
                refine lv_iconst (v := 4) hx hb dX12_look_89 (by decide) ?_
                have hPc : va_P D vwCl (wX12_meet cI cB a_mo a_mem a_mks a_mr a_cnt a_wd a_one a_two a_mmade a_mrest a_old v_thrown v_mask v_key v_wait v_problem v_code v_length v_cond v_masks v_addr v_mwanted w_3.1 v_after v_calls v_oneB v_twoB) H := hP.sub [0] rfl
                have hDc : va_D A (wX12_meet cI cB a_mo a_mem a_mks a_mr a_cnt a_wd a_one a_two a_mmade a_mrest a_old v_thrown v_mask v_key v_wait v_problem v_code v_length v_cond v_masks v_addr v_mwanted w_3.1 v_after v_calls v_oneB v_twoB) := hD.sub [0] (by decide) rfl
                have hFc := va_free (wc := (wX12_meet cI cB a_mo a_mem a_mks a_mr a_cnt a_wd a_one a_two a_mmade a_mrest a_old v_thrown v_mask v_key v_wait v_problem v_code v_length v_cond v_masks v_addr v_mwanted w_3.1 v_after v_calls v_oneB v_twoB)) hD hS hA [0] rfl
                refine va_callv (va_runV (As := [.int 4]) (rest := []) ⟨hx, hb, hml, hown, hts⟩ (kX12_meet l D cI cB a_mo a_mem a_mks a_mr a_cnt a_wd a_one a_two a_mmade a_mrest a_old H.size v_thrown v_mask v_key v_wait v_problem v_code v_length v_cond v_masks v_addr v_mwanted w_3.1 v_after v_calls v_oneB v_twoB 4) (cwV 1 hts (gd_V wd_838 wd_839 wd_840 wd_807 wd_835) rfl rfl rfl hdX12_meet ⟨Nat.le_of_ble_eq_true rfl, Nat.le_of_ble_eq_true rfl⟩) (preV_std (ci := 12) (q0 := 0) hPc hK hDc hNW rfl rfl) rfl rfl hl.1 rfl (lv_room (Nat.le_of_ble_eq_true rfl)) dX12_look_90 ⟨Nat.zero_le _, Nat.zero_le _⟩) hS (fun q _ h => hFc q h) hFc (fun u_90 t9 H1 locs ht9 hvm9 hw9 hB9 hz9 hk9 hS => ?_)
                have eu_90 : u_90 = fX12_meet 4 w_3.1 := hw9
                obtain ⟨hP, hD⟩ := back_std (w1 := (wX12_meet cI cB a_mo a_mem a_mks a_mr a_cnt a_wd a_one a_two a_mmade a_mrest a_old v_thrown v_mask v_key v_wait v_problem v_code v_length v_cond v_masks v_addr v_mwanted u_90 v_after v_calls v_oneB v_twoB)) (w2 := (wX12_look cI cB a_mo a_mem a_mks a_mr a_cnt a_wd a_one a_two a_mmade a_mrest a_old v_thrown v_mask v_key v_wait v_problem v_code v_length v_cond v_masks v_addr v_mwanted u_90 v_after v_calls v_oneB v_twoB v_mkF)) (wr := [(a_mks, .inl (cI, 4, .inl v_mkF))]) hP hD [0] [1] [1, 0] rfl rfl (by decide) (by decide) hk9 hFc hB9 ht9 (by decide) rfl
                clear hB9 hk9 hz9 hvm9 ht9 hFc hPc hDc
                generalize H1 = H at hP hS ⊢
                exact J_93 u_90 (by subst ex_44; (try simp only [← em_69, ← eu_90]); (try simp only [if_pos c_23, if_neg c_73, if_neg c_77])) _ _ hP hD hS ls (lv_sub hl [1, 2, 3, 4, 5, 6] rfl)
              · skip
                refine lv_iload hx hb dX12_look_80 (lv_at hl 7 rfl) ?_
                refine lv_iconst (v := 1) hx hb dX12_look_82 (by decide) ?_
                refine lv_iand hx hb dX12_look_83 ?_
                refine lv_iconst (v := 1) hx hb dX12_look_84 (by decide) ?_
                refine lv_icmp_ne (tgt := 93) hx hb dX12_look_85 (by decide) (fun c_85 => ?_) (fun c_85 => ?_)
                · skip
                  exact J_93 w_3.1 (by subst ex_44; (try simp only [← em_69]); (try simp only [if_pos c_23, if_neg c_73, if_pos c_77, if_neg c_85])) _ _ hP hD hS ls (lv_sub hl [1, 2, 3, 4, 5, 6] rfl)
                · skip
                  refine lv_aload_n hx hb dX12_look_88 rfl (lv_at hl 1 rfl) ?_
                  refine lv_iconst (v := 4) hx hb dX12_look_89 (by decide) ?_
                  have hPc : va_P D vwCl (wX12_meet cI cB a_mo a_mem a_mks a_mr a_cnt a_wd a_one a_two a_mmade a_mrest a_old v_thrown v_mask v_key v_wait v_problem v_code v_length v_cond v_masks v_addr v_mwanted w_3.1 v_after v_calls v_oneB v_twoB) H := hP.sub [0] rfl
                  have hDc : va_D A (wX12_meet cI cB a_mo a_mem a_mks a_mr a_cnt a_wd a_one a_two a_mmade a_mrest a_old v_thrown v_mask v_key v_wait v_problem v_code v_length v_cond v_masks v_addr v_mwanted w_3.1 v_after v_calls v_oneB v_twoB) := hD.sub [0] (by decide) rfl
                  have hFc := va_free (wc := (wX12_meet cI cB a_mo a_mem a_mks a_mr a_cnt a_wd a_one a_two a_mmade a_mrest a_old v_thrown v_mask v_key v_wait v_problem v_code v_length v_cond v_masks v_addr v_mwanted w_3.1 v_after v_calls v_oneB v_twoB)) hD hS hA [0] rfl
                  refine va_callv (va_runV (As := [.int 4]) (rest := []) ⟨hx, hb, hml, hown, hts⟩ (kX12_meet l D cI cB a_mo a_mem a_mks a_mr a_cnt a_wd a_one a_two a_mmade a_mrest a_old H.size v_thrown v_mask v_key v_wait v_problem v_code v_length v_cond v_masks v_addr v_mwanted w_3.1 v_after v_calls v_oneB v_twoB 4) (cwV 1 hts (gd_V wd_838 wd_839 wd_840 wd_807 wd_835) rfl rfl rfl hdX12_meet ⟨Nat.le_of_ble_eq_true rfl, Nat.le_of_ble_eq_true rfl⟩) (preV_std (ci := 12) (q0 := 0) hPc hK hDc hNW rfl rfl) rfl rfl hl.1 rfl (lv_room (Nat.le_of_ble_eq_true rfl)) dX12_look_90 ⟨Nat.zero_le _, Nat.zero_le _⟩) hS (fun q _ h => hFc q h) hFc (fun u_90 t9 H1 locs ht9 hvm9 hw9 hB9 hz9 hk9 hS => ?_)
                  have eu_90 : u_90 = fX12_meet 4 w_3.1 := hw9
                  obtain ⟨hP, hD⟩ := back_std (w1 := (wX12_meet cI cB a_mo a_mem a_mks a_mr a_cnt a_wd a_one a_two a_mmade a_mrest a_old v_thrown v_mask v_key v_wait v_problem v_code v_length v_cond v_masks v_addr v_mwanted u_90 v_after v_calls v_oneB v_twoB)) (w2 := (wX12_look cI cB a_mo a_mem a_mks a_mr a_cnt a_wd a_one a_two a_mmade a_mrest a_old v_thrown v_mask v_key v_wait v_problem v_code v_length v_cond v_masks v_addr v_mwanted u_90 v_after v_calls v_oneB v_twoB v_mkF)) (wr := [(a_mks, .inl (cI, 4, .inl v_mkF))]) hP hD [0] [1] [1, 0] rfl rfl (by decide) (by decide) hk9 hFc hB9 ht9 (by decide) rfl
                  clear hB9 hk9 hz9 hvm9 ht9 hFc hPc hDc
                  generalize H1 = H at hP hS ⊢
                  exact J_93 u_90 (by subst ex_44; (try simp only [← em_69, ← eu_90]); (try simp only [if_pos c_23, if_neg c_73, if_pos c_77, if_pos c_85])) _ _ hP hD hS ls (lv_sub hl [1, 2, 3, 4, 5, 6] rfl)
          refine lv_if_eq (tgt := 68) hx hb dX12_look_50 (by decide) (fun c_50 => ?_) (fun c_50 => ?_)
          · skip
            refine lv_iconst (v := 0) hx hb dX12_look_68 (by decide) ?_
            exact J_69 0 (by (try simp only [if_pos c_50])) _ _ hP hD hS ls (lv_sub hl [2, 3, 4, 5, 6, 1, 0] rfl)
          · skip
            refine lv_iload hx hb dX12_look_53 (lv_at hl 0 rfl) ?_
            refine lv_iconst (v := 1) hx hb dX12_look_55 (by decide) ?_
            refine lv_ishr hx hb dX12_look_56 ?_
            refine lv_aload_n hx hb dX12_look_57 rfl (lv_at hl 2 rfl) ?_
            refine va_get (D := D) (ci := 12) (v := .int v_key) (C := RX12) (T := TX12) (N := 26) hx hb hts in_X12 hown hK hP 0 rfl rfl 5 (by decide) q_2 (fun _ h9 => h9) rfl dX12_look_58 ?_
            refine lv_icmp_eq (tgt := 68) hx hb dX12_look_61 (by decide) (fun c_61 => ?_) (fun c_61 => ?_)
            · skip
              refine lv_iconst (v := 0) hx hb dX12_look_68 (by decide) ?_
              exact J_69 0 (by (try simp only [if_neg c_50, if_pos c_61])) _ _ hP hD hS ls (lv_sub hl [2, 3, 4, 5, 6, 1, 0] rfl)
            · skip
              refine lv_iconst (v := 1) hx hb dX12_look_64 (by decide) ?_
              refine lv_goto (tgt := 69) hx hb dX12_look_65 (by decide) ?_
              exact J_69 1 (by (try simp only [if_neg c_50, if_neg c_61])) _ _ hP hD hS ls (lv_sub hl [2, 3, 4, 5, 6, 1, 0] rfl)
        · skip
          refine lv_aload_n hx hb dX12_look_26 rfl (lv_at hl 1 rfl) ?_
          refine lv_iconst (v := 5) hx hb dX12_look_27 (by decide) ?_
          have hPc : va_P D vwCl (wX12_meet cI cB a_mo a_mem a_mks a_mr a_cnt a_wd a_one a_two a_mmade a_mrest a_old v_thrown v_mask v_key v_wait v_problem v_code v_length v_cond v_masks v_addr v_mwanted w_3.1 v_after v_calls v_oneB v_twoB) H := hP.sub [0] rfl
          have hDc : va_D A (wX12_meet cI cB a_mo a_mem a_mks a_mr a_cnt a_wd a_one a_two a_mmade a_mrest a_old v_thrown v_mask v_key v_wait v_problem v_code v_length v_cond v_masks v_addr v_mwanted w_3.1 v_after v_calls v_oneB v_twoB) := hD.sub [0] (by decide) rfl
          have hFc := va_free (wc := (wX12_meet cI cB a_mo a_mem a_mks a_mr a_cnt a_wd a_one a_two a_mmade a_mrest a_old v_thrown v_mask v_key v_wait v_problem v_code v_length v_cond v_masks v_addr v_mwanted w_3.1 v_after v_calls v_oneB v_twoB)) hD hS hA [0] rfl
          refine va_callv (va_runV (As := [.int 5]) (rest := []) ⟨hx, hb, hml, hown, hts⟩ (kX12_meet l D cI cB a_mo a_mem a_mks a_mr a_cnt a_wd a_one a_two a_mmade a_mrest a_old H.size v_thrown v_mask v_key v_wait v_problem v_code v_length v_cond v_masks v_addr v_mwanted w_3.1 v_after v_calls v_oneB v_twoB 5) (cwV 1 hts (gd_V wd_838 wd_839 wd_840 wd_807 wd_835) rfl rfl rfl hdX12_meet ⟨Nat.le_of_ble_eq_true rfl, Nat.le_of_ble_eq_true rfl⟩) (preV_std (ci := 12) (q0 := 0) hPc hK hDc hNW rfl rfl) rfl rfl hl.1 rfl (lv_room (Nat.le_of_ble_eq_true rfl)) dX12_look_28 ⟨Nat.zero_le _, Nat.zero_le _⟩) hS (fun q _ h => hFc q h) hFc (fun u_28 t9 H1 locs ht9 hvm9 hw9 hB9 hz9 hk9 hS => ?_)
          have eu_28 : u_28 = fX12_meet 5 w_3.1 := hw9
          obtain ⟨hP, hD⟩ := back_std (w1 := (wX12_meet cI cB a_mo a_mem a_mks a_mr a_cnt a_wd a_one a_two a_mmade a_mrest a_old v_thrown v_mask v_key v_wait v_problem v_code v_length v_cond v_masks v_addr v_mwanted u_28 v_after v_calls v_oneB v_twoB)) (w2 := (wX12_look cI cB a_mo a_mem a_mks a_mr a_cnt a_wd a_one a_two a_mmade a_mrest a_old v_thrown v_mask v_key v_wait v_problem v_code v_length v_cond v_masks v_addr v_mwanted u_28 v_after v_calls v_oneB v_twoB v_mkF)) (wr := [(a_mks, .inl (cI, 4, .inl v_mkF))]) hP hD [0] [1] [1, 0] rfl rfl (by decide) (by decide) hk9 hFc hB9 ht9 (by decide) rfl
          clear hB9 hk9 hz9 hvm9 ht9 hFc hPc hDc
          generalize H1 = H at hP hS ⊢
          refine lv_goto (tgt := 93) hx hb dX12_look_31 (by decide) ?_
          exact J_93 u_28 (by (try simp only [← eu_28]); (try simp only [if_neg c_23])) _ _ hP hD hS ls (lv_sub hl [1, 2, 3, 4, 5, 0] rfl)
  exact lp_3 (msU x1 0 + 1) (v_wrong, 0) (Nat.lt_succ_self _) eg_3.symm _ _ hP hD hS ls (lv_sub hl [1, 2, 3, 4, 0] rfl)
theorem hdX12_look : yX12_look.cls = RX12 ∧ yX12_look.cls ≠ "java/lang/invoke/MethodHandle" ∧ yX12_look.cls ≠ "java/lang/invoke/VarHandle" ∧ (parseMethodDescriptor yX12_look.desc).map (fun d => d.parameters.length) = some 3 := by decide +kernel
noncomputable def fX12_even (x0 : Int32) (x1 : Int32) (v_wrong : Int32) : Int32 :=
  if (x0 - x0 / x1 * x1) = 0 then (v_wrong) else (let u_9 := fX12_meet 6 v_wrong; u_9)
abbrev wX12_even (cI cB : ClassId) (a_mo a_mem a_mks a_mr a_cnt a_wd a_one a_two a_mmade a_mrest a_old : Nat) (v_thrown : Int32) (v_mask : Int32) (v_key : Int32) (v_wait : Int32) (v_problem : Int32) (v_code : Int32) (v_length : Int32) (v_cond : Int32) (v_masks : Int32) (v_addr : Int32) (v_mwanted : Int32) (v_wrong : Int32) (v_after : Int32) (v_calls : Int32) (v_oneB : Int32) (v_twoB : Int32) : va_W := [(a_mo, .inr (12, [.int v_thrown, .ref a_mem, .ref a_mks, .ref a_mr, .int v_mask, .int v_key, .int v_wait, .int v_problem, .int v_code, .int v_length, .int v_cond, .int v_masks, .int v_addr, .int v_mwanted, .ref a_cnt, .ref a_wd, .int v_wrong, .int v_after, .int v_calls, .ref a_one, .int v_oneB, .ref a_two, .int v_twoB, .ref a_mmade, .ref a_mrest, .ref a_old]))]
abbrev rmX12_even : Room := { frames := 1, cells := 0, slots := 0, locals := 21 }
abbrev qX12_even (D : va_G) (cI cB : ClassId) (a_mo a_mem a_mks a_mr a_cnt a_wd a_one a_two a_mmade a_mrest a_old : Nat) (v_thrown : Int32) (v_mask : Int32) (v_key : Int32) (v_wait : Int32) (v_problem : Int32) (v_code : Int32) (v_length : Int32) (v_cond : Int32) (v_masks : Int32) (v_addr : Int32) (v_mwanted : Int32) (v_wrong : Int32) (v_after : Int32) (v_calls : Int32) (v_oneB : Int32) (v_twoB : Int32) (x0 : Int32) (x1 : Int32) : (Nat → Prop) → Array Value → State → Outcome → State → Prop := fun A9 => va_Qv (fun (u9 : Int32) => u9 = fX12_even x0 x1 v_wrong) (fun u9 t9 => atW D (TYS cI cB) A9 (wX12_even cI cB a_mo a_mem a_mks a_mr a_cnt a_wd a_one a_two a_mmade a_mrest a_old v_thrown v_mask v_key v_wait v_problem v_code v_length v_cond v_masks v_addr v_mwanted u9 v_after v_calls v_oneB v_twoB) t9) A9
set_option maxHeartbeats 4000000 in
set_option maxRecDepth 100000 in
theorem kX12_even (l : Launch) (D : va_G) (cI cB : ClassId) (a_mo a_mem a_mks a_mr a_cnt a_wd a_one a_two a_mmade a_mrest a_old : Nat) (sz : Nat) (v_thrown : Int32) (v_mask : Int32) (v_key : Int32) (v_wait : Int32) (v_problem : Int32) (v_code : Int32) (v_length : Int32) (v_cond : Int32) (v_masks : Int32) (v_addr : Int32) (v_mwanted : Int32) (v_wrong : Int32) (v_after : Int32) (v_calls : Int32) (v_oneB : Int32) (v_twoB : Int32) (x0 : Int32) (x1 : Int32) (hy : ¬ x1 = 0) : MetW l yX12_even (WK yX12_even cX12_even 3 none) rmX12_even D (TYS cI cB) (wX12_even cI cB a_mo a_mem a_mks a_mr a_cnt a_wd a_one a_two a_mmade a_mrest a_old v_thrown v_mask v_key v_wait v_problem v_code v_length v_cond v_masks v_addr v_mwanted v_wrong v_after v_calls v_oneB v_twoB) sz [.ref a_mo, .int x0, .int x1] (qX12_even D cI cB a_mo a_mem a_mks a_mr a_cnt a_wd a_one a_two a_mmade a_mrest a_old v_thrown v_mask v_key v_wait v_problem v_code v_length v_cond v_masks v_addr v_mwanted v_wrong v_after v_calls v_oneB v_twoB x0 x1) 0 0 := by
  refine met_std (by decide) rfl (Nat.le_of_ble_eq_true rfl) ?_
  intro p e s m below meth c A ls H hx hb hr hml hown hts hlocks hA hP hK hD hS hNW hl
  have hl : lv_has ls 3 [(0, .ref a_mo), (1, .int x0), (2, .int x1)] := hl
  refine lv_iload_n hx hb dX12_even_0 rfl (lv_at hl 1 rfl) ?_
  refine lv_iload_n hx hb dX12_even_1 rfl (lv_at hl 2 rfl) ?_
  refine lv_irem hx hb dX12_even_2 (by with_reducible assumption) ?_
  refine lv_if_eq (tgt := 12) hx hb dX12_even_3 (by decide) (fun c_3 => ?_) (fun c_3 => ?_)
  · skip
    have hf9 : v_wrong = fX12_even x0 x1 v_wrong := by simp only [fX12_even]; (try simp only [if_pos c_3])
    exact W.vret hx hb hr (fun t9 ht9 hW9 => ⟨⟨v_wrong, rfl, hf9, ⟨by rw [ht9]; exact hP, va_K.moved hW9.alike hK, hD⟩⟩, hS.F ht9⟩) hS.2.2 dX12_even_12
  · skip
    refine lv_aload_n hx hb dX12_even_6 rfl (lv_at hl 0 rfl) ?_
    refine lv_bipush (v := 6) hx hb dX12_even_7 (by decide) ?_
    have hPc : va_P D vwCl (wX12_meet cI cB a_mo a_mem a_mks a_mr a_cnt a_wd a_one a_two a_mmade a_mrest a_old v_thrown v_mask v_key v_wait v_problem v_code v_length v_cond v_masks v_addr v_mwanted v_wrong v_after v_calls v_oneB v_twoB) H := hP.sub [0] rfl
    have hDc : va_D A (wX12_meet cI cB a_mo a_mem a_mks a_mr a_cnt a_wd a_one a_two a_mmade a_mrest a_old v_thrown v_mask v_key v_wait v_problem v_code v_length v_cond v_masks v_addr v_mwanted v_wrong v_after v_calls v_oneB v_twoB) := hD.sub [0] (by decide) rfl
    have hFc := va_free (wc := (wX12_meet cI cB a_mo a_mem a_mks a_mr a_cnt a_wd a_one a_two a_mmade a_mrest a_old v_thrown v_mask v_key v_wait v_problem v_code v_length v_cond v_masks v_addr v_mwanted v_wrong v_after v_calls v_oneB v_twoB)) hD hS hA [0] rfl
    refine va_callv (va_runV (As := [.int 6]) (rest := []) ⟨hx, hb, hml, hown, hts⟩ (kX12_meet l D cI cB a_mo a_mem a_mks a_mr a_cnt a_wd a_one a_two a_mmade a_mrest a_old H.size v_thrown v_mask v_key v_wait v_problem v_code v_length v_cond v_masks v_addr v_mwanted v_wrong v_after v_calls v_oneB v_twoB 6) (cwV 1 hts (gd_V wd_838 wd_839 wd_840 wd_807 wd_835) rfl rfl rfl hdX12_meet ⟨Nat.le_of_ble_eq_true rfl, Nat.le_of_ble_eq_true rfl⟩) (preV_std (ci := 12) (q0 := 0) hPc hK hDc hNW rfl rfl) rfl rfl hl.1 rfl (lv_room (Nat.le_of_ble_eq_true rfl)) dX12_even_9 ⟨Nat.zero_le _, Nat.zero_le _⟩) hS (fun q _ h => hFc q h) hFc (fun u_9 t9 H1 locs ht9 hvm9 hw9 hB9 hz9 hk9 hS => ?_)
    have eu_9 : u_9 = fX12_meet 6 v_wrong := hw9
    obtain ⟨hP, hD⟩ := back_std (w1 := (wX12_meet cI cB a_mo a_mem a_mks a_mr a_cnt a_wd a_one a_two a_mmade a_mrest a_old v_thrown v_mask v_key v_wait v_problem v_code v_length v_cond v_masks v_addr v_mwanted u_9 v_after v_calls v_oneB v_twoB)) (w2 := (wX12_even cI cB a_mo a_mem a_mks a_mr a_cnt a_wd a_one a_two a_mmade a_mrest a_old v_thrown v_mask v_key v_wait v_problem v_code v_length v_cond v_masks v_addr v_mwanted u_9 v_after v_calls v_oneB v_twoB)) (wr := []) hP hD [0] [] [0] rfl rfl (by decide) (by decide) hk9 hFc hB9 ht9 (by decide) rfl
    clear hB9 hk9 hz9 hvm9 ht9 hFc hPc hDc
    generalize H1 = H at hP hS ⊢
    have hf9 : u_9 = fX12_even x0 x1 v_wrong := by simp only [fX12_even, ← eu_9]; (try simp only [if_neg c_3])
    exact W.vret hx hb hr (fun t9 ht9 hW9 => ⟨⟨u_9, rfl, hf9, ⟨by rw [ht9]; exact hP, va_K.moved hW9.alike hK, hD⟩⟩, hS.F ht9⟩) hS.2.2 dX12_even_12
theorem hdX12_even : yX12_even.cls = RX12 ∧ yX12_even.cls ≠ "java/lang/invoke/MethodHandle" ∧ yX12_even.cls ≠ "java/lang/invoke/VarHandle" ∧ (parseMethodDescriptor yX12_even.desc).map (fun d => d.parameters.length) = some 2 := by decide +kernel
noncomputable def fX12_supervisor (v_problem : Int32) (v_wrong : Int32) : Int32 :=
  if v_problem = 0 then (v_wrong) else (let u_9 := fX12_meet 2 v_wrong; u_9)
abbrev wX12_supervisor (cI cB : ClassId) (a_mo a_mem a_mks a_mr a_cnt a_wd a_one a_two a_mmade a_mrest a_old : Nat) (v_thrown : Int32) (v_mask : Int32) (v_key : Int32) (v_wait : Int32) (v_problem : Int32) (v_code : Int32) (v_length : Int32) (v_cond : Int32) (v_masks : Int32) (v_addr : Int32) (v_mwanted : Int32) (v_wrong : Int32) (v_after : Int32) (v_calls : Int32) (v_oneB : Int32) (v_twoB : Int32) : va_W := [(a_mo, .inr (12, [.int v_thrown, .ref a_mem, .ref a_mks, .ref a_mr, .int v_mask, .int v_key, .int v_wait, .int v_problem, .int v_code, .int v_length, .int v_cond, .int v_masks, .int v_addr, .int v_mwanted, .ref a_cnt, .ref a_wd, .int v_wrong, .int v_after, .int v_calls, .ref a_one, .int v_oneB, .ref a_two, .int v_twoB, .ref a_mmade, .ref a_mrest, .ref a_old]))]
abbrev rmX12_supervisor : Room := { frames := 1, cells := 0, slots := 0, locals := 21 }
abbrev qX12_supervisor (D : va_G) (cI cB : ClassId) (a_mo a_mem a_mks a_mr a_cnt a_wd a_one a_two a_mmade a_mrest a_old : Nat) (v_thrown : Int32) (v_mask : Int32) (v_key : Int32) (v_wait : Int32) (v_problem : Int32) (v_code : Int32) (v_length : Int32) (v_cond : Int32) (v_masks : Int32) (v_addr : Int32) (v_mwanted : Int32) (v_wrong : Int32) (v_after : Int32) (v_calls : Int32) (v_oneB : Int32) (v_twoB : Int32) : (Nat → Prop) → Array Value → State → Outcome → State → Prop := fun A9 => va_Qv (fun (u9 : Int32) => u9 = fX12_supervisor v_problem v_wrong) (fun u9 t9 => atW D (TYS cI cB) A9 (wX12_supervisor cI cB a_mo a_mem a_mks a_mr a_cnt a_wd a_one a_two a_mmade a_mrest a_old v_thrown v_mask v_key v_wait v_problem v_code v_length v_cond v_masks v_addr v_mwanted u9 v_after v_calls v_oneB v_twoB) t9) A9
set_option maxHeartbeats 4000000 in
set_option maxRecDepth 100000 in
theorem kX12_supervisor (l : Launch) (D : va_G) (cI cB : ClassId) (a_mo a_mem a_mks a_mr a_cnt a_wd a_one a_two a_mmade a_mrest a_old : Nat) (sz : Nat) (v_thrown : Int32) (v_mask : Int32) (v_key : Int32) (v_wait : Int32) (v_problem : Int32) (v_code : Int32) (v_length : Int32) (v_cond : Int32) (v_masks : Int32) (v_addr : Int32) (v_mwanted : Int32) (v_wrong : Int32) (v_after : Int32) (v_calls : Int32) (v_oneB : Int32) (v_twoB : Int32) : MetW l yX12_supervisor (WK yX12_supervisor cX12_supervisor 1 none) rmX12_supervisor D (TYS cI cB) (wX12_supervisor cI cB a_mo a_mem a_mks a_mr a_cnt a_wd a_one a_two a_mmade a_mrest a_old v_thrown v_mask v_key v_wait v_problem v_code v_length v_cond v_masks v_addr v_mwanted v_wrong v_after v_calls v_oneB v_twoB) sz [.ref a_mo] (qX12_supervisor D cI cB a_mo a_mem a_mks a_mr a_cnt a_wd a_one a_two a_mmade a_mrest a_old v_thrown v_mask v_key v_wait v_problem v_code v_length v_cond v_masks v_addr v_mwanted v_wrong v_after v_calls v_oneB v_twoB) 0 0 := by
  refine met_std (by decide) rfl (Nat.le_of_ble_eq_true rfl) ?_
  intro p e s m below meth c A ls H hx hb hr hml hown hts hlocks hA hP hK hD hS hNW hl
  have hl : lv_has ls 1 [(0, .ref a_mo)] := hl
  have q_0 := hts _ (List.mem_cons_of_mem _ wd_800)
  refine lv_aload_n hx hb dX12_supervisor_0 rfl (lv_at hl 0 rfl) ?_
  refine va_get (D := D) (ci := 12) (v := .int v_problem) (C := RX12) (T := TX12) (N := 26) hx hb hts in_X12 hown hK hP 0 rfl rfl 7 (by decide) q_0 (fun _ h9 => h9) rfl dX12_supervisor_1 ?_
  refine lv_if_eq (tgt := 12) hx hb dX12_supervisor_4 (by decide) (fun c_4 => ?_) (fun c_4 => ?_)
  · skip
    have hf9 : v_wrong = fX12_supervisor v_problem v_wrong := by simp only [fX12_supervisor]; (try simp only [if_pos c_4])
    exact W.vret hx hb hr (fun t9 ht9 hW9 => ⟨⟨v_wrong, rfl, hf9, ⟨by rw [ht9]; exact hP, va_K.moved hW9.alike hK, hD⟩⟩, hS.F ht9⟩) hS.2.2 dX12_supervisor_12
  · skip
    refine lv_aload_n hx hb dX12_supervisor_7 rfl (lv_at hl 0 rfl) ?_
    refine lv_iconst (v := 2) hx hb dX12_supervisor_8 (by decide) ?_
    have hPc : va_P D vwCl (wX12_meet cI cB a_mo a_mem a_mks a_mr a_cnt a_wd a_one a_two a_mmade a_mrest a_old v_thrown v_mask v_key v_wait v_problem v_code v_length v_cond v_masks v_addr v_mwanted v_wrong v_after v_calls v_oneB v_twoB) H := hP.sub [0] rfl
    have hDc : va_D A (wX12_meet cI cB a_mo a_mem a_mks a_mr a_cnt a_wd a_one a_two a_mmade a_mrest a_old v_thrown v_mask v_key v_wait v_problem v_code v_length v_cond v_masks v_addr v_mwanted v_wrong v_after v_calls v_oneB v_twoB) := hD.sub [0] (by decide) rfl
    have hFc := va_free (wc := (wX12_meet cI cB a_mo a_mem a_mks a_mr a_cnt a_wd a_one a_two a_mmade a_mrest a_old v_thrown v_mask v_key v_wait v_problem v_code v_length v_cond v_masks v_addr v_mwanted v_wrong v_after v_calls v_oneB v_twoB)) hD hS hA [0] rfl
    refine va_callv (va_runV (As := [.int 2]) (rest := []) ⟨hx, hb, hml, hown, hts⟩ (kX12_meet l D cI cB a_mo a_mem a_mks a_mr a_cnt a_wd a_one a_two a_mmade a_mrest a_old H.size v_thrown v_mask v_key v_wait v_problem v_code v_length v_cond v_masks v_addr v_mwanted v_wrong v_after v_calls v_oneB v_twoB 2) (cwV 1 hts (gd_V wd_838 wd_839 wd_840 wd_807 wd_835) rfl rfl rfl hdX12_meet ⟨Nat.le_of_ble_eq_true rfl, Nat.le_of_ble_eq_true rfl⟩) (preV_std (ci := 12) (q0 := 0) hPc hK hDc hNW rfl rfl) rfl rfl hl.1 rfl (lv_room (Nat.le_of_ble_eq_true rfl)) dX12_supervisor_9 ⟨Nat.zero_le _, Nat.zero_le _⟩) hS (fun q _ h => hFc q h) hFc (fun u_9 t9 H1 locs ht9 hvm9 hw9 hB9 hz9 hk9 hS => ?_)
    have eu_9 : u_9 = fX12_meet 2 v_wrong := hw9
    obtain ⟨hP, hD⟩ := back_std (w1 := (wX12_meet cI cB a_mo a_mem a_mks a_mr a_cnt a_wd a_one a_two a_mmade a_mrest a_old v_thrown v_mask v_key v_wait v_problem v_code v_length v_cond v_masks v_addr v_mwanted u_9 v_after v_calls v_oneB v_twoB)) (w2 := (wX12_supervisor cI cB a_mo a_mem a_mks a_mr a_cnt a_wd a_one a_two a_mmade a_mrest a_old v_thrown v_mask v_key v_wait v_problem v_code v_length v_cond v_masks v_addr v_mwanted u_9 v_after v_calls v_oneB v_twoB)) (wr := []) hP hD [0] [] [0] rfl rfl (by decide) (by decide) hk9 hFc hB9 ht9 (by decide) rfl
    clear hB9 hk9 hz9 hvm9 ht9 hFc hPc hDc
    generalize H1 = H at hP hS ⊢
    have hf9 : u_9 = fX12_supervisor v_problem v_wrong := by simp only [fX12_supervisor, ← eu_9]; (try simp only [if_neg c_4])
    exact W.vret hx hb hr (fun t9 ht9 hW9 => ⟨⟨u_9, rfl, hf9, ⟨by rw [ht9]; exact hP, va_K.moved hW9.alike hK, hD⟩⟩, hS.F ht9⟩) hS.2.2 dX12_supervisor_12
theorem hdX12_supervisor : yX12_supervisor.cls = RX12 ∧ yX12_supervisor.cls ≠ "java/lang/invoke/MethodHandle" ∧ yX12_supervisor.cls ≠ "java/lang/invoke/VarHandle" ∧ (parseMethodDescriptor yX12_supervisor.desc).map (fun d => d.parameters.length) = some 0 := by decide +kernel
noncomputable def fX12_interrupt (x0 : Int32) (x1 : Int32) (x2 : Int32) (x3 : Int32) (v_mask : Int32) (v_key : Int32) (v_wait : Int32) (v_problem : Int32) (v_code : Int32) (v_length : Int32) (v_cond : Int32) (v_masks : Int32) (v_addr : Int32) (v_mF : (Nat → Int32)) : (Int32 × Int32 × Int32 × Int32 × Int32 × Int32 × Int32 × Int32 × Int32 × (Nat → Int32)) :=
  let r_14 := fX12_whole v_mask v_key v_wait v_problem x2 x3 v_cond v_masks v_addr
  let u_19 := fX12_store x0 r_14 8 v_mF
  let r_27 := fX12_fetch x1 8 u_19
  let u_30 := fX12_become r_27 v_mask v_key v_wait v_problem x2 x3 v_cond v_masks v_addr
  (u_30.1, u_30.2.1, u_30.2.2.1, u_30.2.2.2.1, u_30.2.2.2.2.1, u_30.2.2.2.2.2.1, u_30.2.2.2.2.2.2.1, u_30.2.2.2.2.2.2.2.1, u_30.2.2.2.2.2.2.2.2, u_19)
abbrev wX12_interrupt (cI cB : ClassId) (a_mo a_mem a_mks a_mr a_cnt a_wd a_one a_two a_mmade a_mrest a_old : Nat) (v_thrown : Int32) (v_mask : Int32) (v_key : Int32) (v_wait : Int32) (v_problem : Int32) (v_code : Int32) (v_length : Int32) (v_cond : Int32) (v_masks : Int32) (v_addr : Int32) (v_mwanted : Int32) (v_wrong : Int32) (v_after : Int32) (v_calls : Int32) (v_oneB : Int32) (v_twoB : Int32) (v_mF : (Nat → Int32)) : va_W := [(a_mo, .inr (12, [.int v_thrown, .ref a_mem, .ref a_mks, .ref a_mr, .int v_mask, .int v_key, .int v_wait, .int v_problem, .int v_code, .int v_length, .int v_cond, .int v_masks, .int v_addr, .int v_mwanted, .ref a_cnt, .ref a_wd, .int v_wrong, .int v_after, .int v_calls, .ref a_one, .int v_oneB, .ref a_two, .int v_twoB, .ref a_mmade, .ref a_mrest, .ref a_old])), (a_mem, .inl (cI, 8192, .inl v_mF))]
abbrev rmX12_interrupt : Room := { frames := 2, cells := 0, slots := 0, locals := 41 }
abbrev qX12_interrupt (D : va_G) (cI cB : ClassId) (a_mo a_mem a_mks a_mr a_cnt a_wd a_one a_two a_mmade a_mrest a_old : Nat) (v_thrown : Int32) (v_mask : Int32) (v_key : Int32) (v_wait : Int32) (v_problem : Int32) (v_code : Int32) (v_length : Int32) (v_cond : Int32) (v_masks : Int32) (v_addr : Int32) (v_mwanted : Int32) (v_wrong : Int32) (v_after : Int32) (v_calls : Int32) (v_oneB : Int32) (v_twoB : Int32) (v_mF : (Nat → Int32)) (x0 : Int32) (x1 : Int32) (x2 : Int32) (x3 : Int32) : (Nat → Prop) → Array Value → State → Outcome → State → Prop := fun A9 => va_Qv (fun (u9 : (Int32 × Int32 × Int32 × Int32 × Int32 × Int32 × Int32 × Int32 × Int32 × (Nat → Int32))) => u9 = fX12_interrupt x0 x1 x2 x3 v_mask v_key v_wait v_problem v_code v_length v_cond v_masks v_addr v_mF) (fun u9 t9 => atW D (TYS cI cB) A9 (wX12_interrupt cI cB a_mo a_mem a_mks a_mr a_cnt a_wd a_one a_two a_mmade a_mrest a_old v_thrown u9.1 u9.2.1 u9.2.2.1 u9.2.2.2.1 u9.2.2.2.2.1 u9.2.2.2.2.2.1 u9.2.2.2.2.2.2.1 u9.2.2.2.2.2.2.2.1 u9.2.2.2.2.2.2.2.2.1 v_mwanted v_wrong v_after v_calls v_oneB v_twoB u9.2.2.2.2.2.2.2.2.2) t9) A9
set_option maxHeartbeats 4000000 in
set_option maxRecDepth 100000 in
theorem kX12_interrupt (l : Launch) (D : va_G) (cI cB : ClassId) (a_mo a_mem a_mks a_mr a_cnt a_wd a_one a_two a_mmade a_mrest a_old : Nat) (sz : Nat) (v_thrown : Int32) (v_mask : Int32) (v_key : Int32) (v_wait : Int32) (v_problem : Int32) (v_code : Int32) (v_length : Int32) (v_cond : Int32) (v_masks : Int32) (v_addr : Int32) (v_mwanted : Int32) (v_wrong : Int32) (v_after : Int32) (v_calls : Int32) (v_oneB : Int32) (v_twoB : Int32) (v_mF : (Nat → Int32)) (x0 : Int32) (x1 : Int32) (x2 : Int32) (x3 : Int32) (h1 : inM x0 8) (h2 : inM x1 8) : MetW l yX12_interrupt (WK yX12_interrupt cX12_interrupt 5 none) rmX12_interrupt D (TYS cI cB) (wX12_interrupt cI cB a_mo a_mem a_mks a_mr a_cnt a_wd a_one a_two a_mmade a_mrest a_old v_thrown v_mask v_key v_wait v_problem v_code v_length v_cond v_masks v_addr v_mwanted v_wrong v_after v_calls v_oneB v_twoB v_mF) sz [.ref a_mo, .int x0, .int x1, .int x2, .int x3] (qX12_interrupt D cI cB a_mo a_mem a_mks a_mr a_cnt a_wd a_one a_two a_mmade a_mrest a_old v_thrown v_mask v_key v_wait v_problem v_code v_length v_cond v_masks v_addr v_mwanted v_wrong v_after v_calls v_oneB v_twoB v_mF x0 x1 x2 x3) 0 0 := by
  refine met_std (by decide) rfl (Nat.le_of_ble_eq_true rfl) ?_
  intro p e s m below meth c A ls H hx hb hr hml hown hts hlocks hA hP hK hD hS hNW hl
  have hl : lv_has ls 5 [(0, .ref a_mo), (1, .int x0), (2, .int x1), (3, .int x2), (4, .int x3)] := hl
  have q_0 := hts _ (List.mem_cons_of_mem _ wd_802)
  have q_1 := hts _ (List.mem_cons_of_mem _ wd_791)
  refine lv_aload_n hx hb dX12_interrupt_0 rfl (lv_at hl 0 rfl) ?_
  refine lv_iload_n hx hb dX12_interrupt_1 rfl (lv_at hl 3 rfl) ?_
  refine va_put (D := D) (ci := 12) (v := .int x2) (ty := .int) (C := RX12) (T := TX12) (N := 26) hx hb hts in_X12 tyX12 tyX12_ok nmX12 hown hK hP hD hS 0 rfl rfl 8 (by decide) q_0 (fun _ h9 => h9) rfl (by decide +kernel) rfl rfl (Nat.le_of_ble_eq_true rfl) dX12_interrupt_2 (fun H locs hP hD hS => ?_)
  have hP : va_P D vwCl (wX12_interrupt cI cB a_mo a_mem a_mks a_mr a_cnt a_wd a_one a_two a_mmade a_mrest a_old v_thrown v_mask v_key v_wait v_problem x2 v_length v_cond v_masks v_addr v_mwanted v_wrong v_after v_calls v_oneB v_twoB v_mF) H := hP
  have hD : va_D A (wX12_interrupt cI cB a_mo a_mem a_mks a_mr a_cnt a_wd a_one a_two a_mmade a_mrest a_old v_thrown v_mask v_key v_wait v_problem x2 v_length v_cond v_masks v_addr v_mwanted v_wrong v_after v_calls v_oneB v_twoB v_mF) := hD
  refine lv_aload_n hx hb dX12_interrupt_5 rfl (lv_at hl 0 rfl) ?_
  refine lv_iload hx hb dX12_interrupt_6 (lv_at hl 4 rfl) ?_
  refine va_put (D := D) (ci := 12) (v := .int x3) (ty := .int) (C := RX12) (T := TX12) (N := 26) hx hb hts in_X12 tyX12 tyX12_ok nmX12 hown hK hP hD hS 0 rfl rfl 9 (by decide) q_1 (fun _ h9 => h9) rfl (by decide +kernel) rfl rfl (Nat.le_of_ble_eq_true rfl) dX12_interrupt_8 (fun H locs hP hD hS => ?_)
  have hP : va_P D vwCl (wX12_interrupt cI cB a_mo a_mem a_mks a_mr a_cnt a_wd a_one a_two a_mmade a_mrest a_old v_thrown v_mask v_key v_wait v_problem x2 x3 v_cond v_masks v_addr v_mwanted v_wrong v_after v_calls v_oneB v_twoB v_mF) H := hP
  have hD : va_D A (wX12_interrupt cI cB a_mo a_mem a_mks a_mr a_cnt a_wd a_one a_two a_mmade a_mrest a_old v_thrown v_mask v_key v_wait v_problem x2 x3 v_cond v_masks v_addr v_mwanted v_wrong v_after v_calls v_oneB v_twoB v_mF) := hD
  refine lv_aload_n hx hb dX12_interrupt_11 rfl (lv_at hl 0 rfl) ?_
  refine lv_iload_n hx hb dX12_interrupt_12 rfl (lv_at hl 1 rfl) ?_
  refine lv_aload_n hx hb dX12_interrupt_13 rfl (lv_at hl 0 rfl) ?_
  have hPc : va_P D vwCl (wX12_whole cI cB a_mo a_mem a_mks a_mr a_cnt a_wd a_one a_two a_mmade a_mrest a_old v_thrown v_mask v_key v_wait v_problem x2 x3 v_cond v_masks v_addr v_mwanted v_wrong v_after v_calls v_oneB v_twoB) H := hP.sub [0] rfl
  have hDc : va_D A (wX12_whole cI cB a_mo a_mem a_mks a_mr a_cnt a_wd a_one a_two a_mmade a_mrest a_old v_thrown v_mask v_key v_wait v_problem x2 x3 v_cond v_masks v_addr v_mwanted v_wrong v_after v_calls v_oneB v_twoB) := hD.sub [0] (by decide) rfl
  have hFc := va_free (wc := (wX12_whole cI cB a_mo a_mem a_mks a_mr a_cnt a_wd a_one a_two a_mmade a_mrest a_old v_thrown v_mask v_key v_wait v_problem x2 x3 v_cond v_masks v_addr v_mwanted v_wrong v_after v_calls v_oneB v_twoB)) hD hS hA [0] rfl
  refine va_calll (va_runV (As := []) (rest := [.int x0, .ref a_mo]) ⟨hx, hb, hml, hown, hts⟩ (kX12_whole l D cI cB a_mo a_mem a_mks a_mr a_cnt a_wd a_one a_two a_mmade a_mrest a_old H.size v_thrown v_mask v_key v_wait v_problem x2 x3 v_cond v_masks v_addr v_mwanted v_wrong v_after v_calls v_oneB v_twoB ) (cwV 0 hts (gd_V wd_812 wd_813 wd_814 wd_807 wd_795) rfl rfl rfl hdX12_whole ⟨Nat.le_of_ble_eq_true rfl, Nat.le_of_ble_eq_true rfl⟩) (preV_std (ci := 12) (q0 := 0) hPc hK hDc hNW rfl rfl) rfl rfl hl.1 rfl (lv_room (Nat.le_of_ble_eq_true rfl)) dX12_interrupt_14 ⟨Nat.zero_le _, Nat.zero_le _⟩) hS (fun q _ h => hFc q h) hFc (fun r_14 u_14 t9 H1 locs ht9 hvm9 hw9 hB9 hz9 hk9 hS => ?_)
  have er_14 : r_14 = fX12_whole v_mask v_key v_wait v_problem x2 x3 v_cond v_masks v_addr := hw9
  obtain ⟨hP, hD⟩ := back_std (w1 := (wX12_whole cI cB a_mo a_mem a_mks a_mr a_cnt a_wd a_one a_two a_mmade a_mrest a_old v_thrown v_mask v_key v_wait v_problem x2 x3 v_cond v_masks v_addr v_mwanted v_wrong v_after v_calls v_oneB v_twoB)) (w2 := (wX12_interrupt cI cB a_mo a_mem a_mks a_mr a_cnt a_wd a_one a_two a_mmade a_mrest a_old v_thrown v_mask v_key v_wait v_problem x2 x3 v_cond v_masks v_addr v_mwanted v_wrong v_after v_calls v_oneB v_twoB v_mF)) (wr := [(a_mem, .inl (cI, 8192, .inl v_mF))]) hP hD [0] [1] [1, 0] rfl rfl (by decide) (by decide) hk9 hFc hB9 ht9 (by decide) rfl
  clear hB9 hk9 hz9 hvm9 ht9 hFc hPc hDc
  generalize H1 = H at hP hS ⊢
  refine lv_bipush (v := 8) hx hb dX12_interrupt_17 (by decide) ?_
  have hPc : va_P D vwCl (wX12_store cI cB a_mo a_mem a_mks a_mr a_cnt a_wd a_one a_two a_mmade a_mrest a_old v_thrown v_mask v_key v_wait v_problem x2 x3 v_cond v_masks v_addr v_mwanted v_wrong v_after v_calls v_oneB v_twoB v_mF) H := hP.sub [0, 1] rfl
  have hDc : va_D A (wX12_store cI cB a_mo a_mem a_mks a_mr a_cnt a_wd a_one a_two a_mmade a_mrest a_old v_thrown v_mask v_key v_wait v_problem x2 x3 v_cond v_masks v_addr v_mwanted v_wrong v_after v_calls v_oneB v_twoB v_mF) := hD.sub [0, 1] (by decide) rfl
  have hFc := va_free (wc := (wX12_store cI cB a_mo a_mem a_mks a_mr a_cnt a_wd a_one a_two a_mmade a_mrest a_old v_thrown v_mask v_key v_wait v_problem x2 x3 v_cond v_masks v_addr v_mwanted v_wrong v_after v_calls v_oneB v_twoB v_mF)) hD hS hA [0, 1] rfl
  refine va_callv (va_runV (As := [.int x0, .long r_14, .int 8]) (rest := []) ⟨hx, hb, hml, hown, hts⟩ (kX12_store l D cI cB a_mo a_mem a_mks a_mr a_cnt a_wd a_one a_two a_mmade a_mrest a_old H.size v_thrown v_mask v_key v_wait v_problem x2 x3 v_cond v_masks v_addr v_mwanted v_wrong v_after v_calls v_oneB v_twoB v_mF x0 r_14 8 (by first | with_reducible assumption | decide | (unfold vp_in; decide))) (cwV 3 hts (gd_V wd_826 wd_827 wd_828 wd_807 wd_820) rfl rfl rfl hdX12_store ⟨Nat.le_of_ble_eq_true rfl, Nat.le_of_ble_eq_true rfl⟩) (preV_std (ci := 12) (q0 := 0) hPc hK hDc hNW rfl rfl) rfl rfl hl.1 rfl (lv_room (Nat.le_of_ble_eq_true rfl)) dX12_interrupt_19 ⟨Nat.zero_le _, Nat.zero_le _⟩) hS (fun q _ h => hFc q h) hFc (fun u_19 t9 H1 locs ht9 hvm9 hw9 hB9 hz9 hk9 hS => ?_)
  have eu_19 : u_19 = fX12_store x0 r_14 8 v_mF := hw9
  obtain ⟨hP, hD⟩ := back_std (w1 := (wX12_store cI cB a_mo a_mem a_mks a_mr a_cnt a_wd a_one a_two a_mmade a_mrest a_old v_thrown v_mask v_key v_wait v_problem x2 x3 v_cond v_masks v_addr v_mwanted v_wrong v_after v_calls v_oneB v_twoB u_19)) (w2 := (wX12_interrupt cI cB a_mo a_mem a_mks a_mr a_cnt a_wd a_one a_two a_mmade a_mrest a_old v_thrown v_mask v_key v_wait v_problem x2 x3 v_cond v_masks v_addr v_mwanted v_wrong v_after v_calls v_oneB v_twoB u_19)) (wr := []) hP hD [0, 1] [] [0, 1] rfl rfl (by decide) (by decide) hk9 hFc hB9 ht9 (by decide) rfl
  clear hB9 hk9 hz9 hvm9 ht9 hFc hPc hDc
  generalize H1 = H at hP hS ⊢
  refine lv_aload_n hx hb dX12_interrupt_22 rfl (lv_at hl 0 rfl) ?_
  refine lv_aload_n hx hb dX12_interrupt_23 rfl (lv_at hl 0 rfl) ?_
  refine lv_iload_n hx hb dX12_interrupt_24 rfl (lv_at hl 2 rfl) ?_
  refine lv_bipush (v := 8) hx hb dX12_interrupt_25 (by decide) ?_
  have hPc : va_P D vwCl (wX12_fetch cI cB a_mo a_mem a_mks a_mr a_cnt a_wd a_one a_two a_mmade a_mrest a_old v_thrown v_mask v_key v_wait v_problem x2 x3 v_cond v_masks v_addr v_mwanted v_wrong v_after v_calls v_oneB v_twoB u_19) H := hP.sub [0, 1] rfl
  have hDc : va_D A (wX12_fetch cI cB a_mo a_mem a_mks a_mr a_cnt a_wd a_one a_two a_mmade a_mrest a_old v_thrown v_mask v_key v_wait v_problem x2 x3 v_cond v_masks v_addr v_mwanted v_wrong v_after v_calls v_oneB v_twoB u_19) := hD.sub [0, 1] (by decide) rfl
  have hFc := va_free (wc := (wX12_fetch cI cB a_mo a_mem a_mks a_mr a_cnt a_wd a_one a_two a_mmade a_mrest a_old v_thrown v_mask v_key v_wait v_problem x2 x3 v_cond v_masks v_addr v_mwanted v_wrong v_after v_calls v_oneB v_twoB u_19)) hD hS hA [0, 1] rfl
  refine va_calll (va_runV (As := [.int x1, .int 8]) (rest := [.ref a_mo]) ⟨hx, hb, hml, hown, hts⟩ (kX12_fetch l D cI cB a_mo a_mem a_mks a_mr a_cnt a_wd a_one a_two a_mmade a_mrest a_old H.size v_thrown v_mask v_key v_wait v_problem x2 x3 v_cond v_masks v_addr v_mwanted v_wrong v_after v_calls v_oneB v_twoB u_19 x1 8 (by first | with_reducible assumption | decide | (unfold vp_in; decide))) (cwV 2 hts (gd_V wd_830 wd_831 wd_832 wd_807 wd_819) rfl rfl rfl hdX12_fetch ⟨Nat.le_of_ble_eq_true rfl, Nat.le_of_ble_eq_true rfl⟩) (preV_std (ci := 12) (q0 := 0) hPc hK hDc hNW rfl rfl) rfl rfl hl.1 rfl (lv_room (Nat.le_of_ble_eq_true rfl)) dX12_interrupt_27 ⟨Nat.zero_le _, Nat.zero_le _⟩) hS (fun q _ h => hFc q h) hFc (fun r_27 u_27 t9 H1 locs ht9 hvm9 hw9 hB9 hz9 hk9 hS => ?_)
  have er_27 : r_27 = fX12_fetch x1 8 u_19 := hw9
  obtain ⟨hP, hD⟩ := back_std (w1 := (wX12_fetch cI cB a_mo a_mem a_mks a_mr a_cnt a_wd a_one a_two a_mmade a_mrest a_old v_thrown v_mask v_key v_wait v_problem x2 x3 v_cond v_masks v_addr v_mwanted v_wrong v_after v_calls v_oneB v_twoB u_19)) (w2 := (wX12_interrupt cI cB a_mo a_mem a_mks a_mr a_cnt a_wd a_one a_two a_mmade a_mrest a_old v_thrown v_mask v_key v_wait v_problem x2 x3 v_cond v_masks v_addr v_mwanted v_wrong v_after v_calls v_oneB v_twoB u_19)) (wr := []) hP hD [0, 1] [] [0, 1] rfl rfl (by decide) (by decide) hk9 hFc hB9 ht9 (by decide) rfl
  clear hB9 hk9 hz9 hvm9 ht9 hFc hPc hDc
  generalize H1 = H at hP hS ⊢
  have hPc : va_P D vwCl (wX12_become cI cB a_mo a_mem a_mks a_mr a_cnt a_wd a_one a_two a_mmade a_mrest a_old v_thrown v_mask v_key v_wait v_problem x2 x3 v_cond v_masks v_addr v_mwanted v_wrong v_after v_calls v_oneB v_twoB) H := hP.sub [0] rfl
  have hDc : va_D A (wX12_become cI cB a_mo a_mem a_mks a_mr a_cnt a_wd a_one a_two a_mmade a_mrest a_old v_thrown v_mask v_key v_wait v_problem x2 x3 v_cond v_masks v_addr v_mwanted v_wrong v_after v_calls v_oneB v_twoB) := hD.sub [0] (by decide) rfl
  have hFc := va_free (wc := (wX12_become cI cB a_mo a_mem a_mks a_mr a_cnt a_wd a_one a_two a_mmade a_mrest a_old v_thrown v_mask v_key v_wait v_problem x2 x3 v_cond v_masks v_addr v_mwanted v_wrong v_after v_calls v_oneB v_twoB)) hD hS hA [0] rfl
  refine va_callv (va_runV (As := [.long r_27]) (rest := []) ⟨hx, hb, hml, hown, hts⟩ (kX12_become l D cI cB a_mo a_mem a_mks a_mr a_cnt a_wd a_one a_two a_mmade a_mrest a_old H.size v_thrown v_mask v_key v_wait v_problem x2 x3 v_cond v_masks v_addr v_mwanted v_wrong v_after v_calls v_oneB v_twoB r_27) (cwV 1 hts (gd_V wd_816 wd_817 wd_818 wd_807 wd_808) rfl rfl rfl hdX12_become ⟨Nat.le_of_ble_eq_true rfl, Nat.le_of_ble_eq_true rfl⟩) (preV_std (ci := 12) (q0 := 0) hPc hK hDc hNW rfl rfl) rfl rfl hl.1 rfl (lv_room (Nat.le_of_ble_eq_true rfl)) dX12_interrupt_30 ⟨Nat.zero_le _, Nat.zero_le _⟩) hS (fun q _ h => hFc q h) hFc (fun u_30 t9 H1 locs ht9 hvm9 hw9 hB9 hz9 hk9 hS => ?_)
  have eu_30 : u_30 = fX12_become r_27 v_mask v_key v_wait v_problem x2 x3 v_cond v_masks v_addr := hw9
  obtain ⟨hP, hD⟩ := back_std (w1 := (wX12_become cI cB a_mo a_mem a_mks a_mr a_cnt a_wd a_one a_two a_mmade a_mrest a_old v_thrown u_30.1 u_30.2.1 u_30.2.2.1 u_30.2.2.2.1 u_30.2.2.2.2.1 u_30.2.2.2.2.2.1 u_30.2.2.2.2.2.2.1 u_30.2.2.2.2.2.2.2.1 u_30.2.2.2.2.2.2.2.2 v_mwanted v_wrong v_after v_calls v_oneB v_twoB)) (w2 := (wX12_interrupt cI cB a_mo a_mem a_mks a_mr a_cnt a_wd a_one a_two a_mmade a_mrest a_old v_thrown u_30.1 u_30.2.1 u_30.2.2.1 u_30.2.2.2.1 u_30.2.2.2.2.1 u_30.2.2.2.2.2.1 u_30.2.2.2.2.2.2.1 u_30.2.2.2.2.2.2.2.1 u_30.2.2.2.2.2.2.2.2 v_mwanted v_wrong v_after v_calls v_oneB v_twoB u_19)) (wr := [(a_mem, .inl (cI, 8192, .inl u_19))]) hP hD [0] [1] [1, 0] rfl rfl (by decide) (by decide) hk9 hFc hB9 ht9 (by decide) rfl
  clear hB9 hk9 hz9 hvm9 ht9 hFc hPc hDc
  generalize H1 = H at hP hS ⊢
  have hf9 : (u_30.1, u_30.2.1, u_30.2.2.1, u_30.2.2.2.1, u_30.2.2.2.2.1, u_30.2.2.2.2.2.1, u_30.2.2.2.2.2.2.1, u_30.2.2.2.2.2.2.2.1, u_30.2.2.2.2.2.2.2.2, u_19) = fX12_interrupt x0 x1 x2 x3 v_mask v_key v_wait v_problem v_code v_length v_cond v_masks v_addr v_mF := by simp only [fX12_interrupt, ← er_14, ← eu_19, ← er_27, ← eu_30]
  exact W.vret hx hb hr (fun t9 ht9 hW9 => ⟨⟨(u_30.1, u_30.2.1, u_30.2.2.1, u_30.2.2.2.1, u_30.2.2.2.2.1, u_30.2.2.2.2.2.1, u_30.2.2.2.2.2.2.1, u_30.2.2.2.2.2.2.2.1, u_30.2.2.2.2.2.2.2.2, u_19), rfl, hf9, ⟨by rw [ht9]; exact hP, va_K.moved hW9.alike hK, hD⟩⟩, hS.F ht9⟩) hS.2.2 dX12_interrupt_33
theorem hdX12_interrupt : yX12_interrupt.cls = RX12 ∧ yX12_interrupt.cls ≠ "java/lang/invoke/MethodHandle" ∧ yX12_interrupt.cls ≠ "java/lang/invoke/VarHandle" ∧ (parseMethodDescriptor yX12_interrupt.desc).map (fun d => d.parameters.length) = some 4 := by decide +kernel
noncomputable def fX12_byNumber (x0 : Int32) : Int32 :=
  if x0 = 0 then (0) else (if 0 ≤ x0 then (2) else (1))
abbrev wX12_byNumber (cI cB : ClassId) : va_W := []
abbrev rmX12_byNumber : Room := { frames := 0, cells := 0, slots := 0, locals := 0 }
abbrev qX12_byNumber (D : va_G) (cI cB : ClassId) (x0 : Int32) : (Nat → Prop) → Array Value → State → Outcome → State → Prop := fun A9 => va_Qi (fun (r9 : Int32) (u9 : Unit) => r9 = fX12_byNumber x0) (fun u9 t9 => atW D (TYS cI cB) A9 (wX12_byNumber cI cB  ) t9) A9
set_option maxHeartbeats 4000000 in
set_option maxRecDepth 100000 in
theorem kX12_byNumber (l : Launch) (D : va_G) (cI cB : ClassId) (sz : Nat) (x0 : Int32) : MetW l yX12_byNumber (WK yX12_byNumber cX12_byNumber 1 (some .int)) rmX12_byNumber D (TYS cI cB) (wX12_byNumber cI cB  ) sz [.int x0] (qX12_byNumber D cI cB  x0) 0 0 := by
  refine met_std (by decide) rfl (Nat.le_of_ble_eq_true rfl) ?_
  intro p e s m below meth c A ls H hx hb hr hml hown hts hlocks hA hP hK hD hS hNW hl
  have hl : lv_has ls 1 [(0, .int x0)] := hl
  refine lv_iload_n hx hb dX12_byNumber_0 rfl (lv_at hl 0 rfl) ?_
  refine lv_if_ne (tgt := 8) hx hb dX12_byNumber_1 (by decide) (fun c_1 => ?_) (fun c_1 => ?_)
  · skip
    refine lv_iload_n hx hb dX12_byNumber_8 rfl (lv_at hl 0 rfl) ?_
    refine lv_if_ge (tgt := 16) hx hb dX12_byNumber_9 (by decide) (fun c_9 => ?_) (fun c_9 => ?_)
    · skip
      refine lv_iconst (v := 2) hx hb dX12_byNumber_16 (by decide) ?_
      have hf9 : 2 = fX12_byNumber x0 := by simp only [fX12_byNumber]; (try simp only [if_neg c_1, if_pos c_9])
      exact W.iret hx hb hr (fun t9 ht9 hW9 => ⟨⟨2, (), rfl, hf9, ⟨by rw [ht9]; exact hP, va_K.moved hW9.alike hK, hD⟩⟩, hS.F ht9⟩) hS.2.2 dX12_byNumber_17
    · skip
      refine lv_iconst (v := 1) hx hb dX12_byNumber_12 (by decide) ?_
      refine lv_goto (tgt := 17) hx hb dX12_byNumber_13 (by decide) ?_
      have hf9 : 1 = fX12_byNumber x0 := by simp only [fX12_byNumber]; (try simp only [if_neg c_1, if_neg c_9])
      exact W.iret hx hb hr (fun t9 ht9 hW9 => ⟨⟨1, (), rfl, hf9, ⟨by rw [ht9]; exact hP, va_K.moved hW9.alike hK, hD⟩⟩, hS.F ht9⟩) hS.2.2 dX12_byNumber_17
  · skip
    refine lv_iconst (v := 0) hx hb dX12_byNumber_4 (by decide) ?_
    refine lv_goto (tgt := 17) hx hb dX12_byNumber_5 (by decide) ?_
    have hf9 : 0 = fX12_byNumber x0 := by simp only [fX12_byNumber]; (try simp only [if_pos c_1])
    exact W.iret hx hb hr (fun t9 ht9 hW9 => ⟨⟨0, (), rfl, hf9, ⟨by rw [ht9]; exact hP, va_K.moved hW9.alike hK, hD⟩⟩, hS.F ht9⟩) hS.2.2 dX12_byNumber_17
theorem hdX12_byNumber : yX12_byNumber.cls = RX12 ∧ yX12_byNumber.cls ≠ "java/lang/invoke/MethodHandle" ∧ yX12_byNumber.cls ≠ "java/lang/invoke/VarHandle" ∧ (parseMethodDescriptor yX12_byNumber.desc).map (fun d => d.parameters.length) = some 1 := by decide +kernel
noncomputable def fX12_byOrder (x0 : Int64) (x1 : Int64) : Int32 :=
  if (lg_cmp (x0) (x1)) = 0 then (0) else (if 0 ≤ (lg_cmp (x0) (x1)) then (2) else (1))
abbrev wX12_byOrder (cI cB : ClassId) : va_W := []
abbrev rmX12_byOrder : Room := { frames := 0, cells := 0, slots := 0, locals := 0 }
abbrev qX12_byOrder (D : va_G) (cI cB : ClassId) (x0 : Int64) (x1 : Int64) : (Nat → Prop) → Array Value → State → Outcome → State → Prop := fun A9 => va_Qi (fun (r9 : Int32) (u9 : Unit) => r9 = fX12_byOrder x0 x1) (fun u9 t9 => atW D (TYS cI cB) A9 (wX12_byOrder cI cB  ) t9) A9
set_option maxHeartbeats 4000000 in
set_option maxRecDepth 100000 in
theorem kX12_byOrder (l : Launch) (D : va_G) (cI cB : ClassId) (sz : Nat) (x0 : Int64) (x1 : Int64) : MetW l yX12_byOrder (WK yX12_byOrder cX12_byOrder 4 (some .int)) rmX12_byOrder D (TYS cI cB) (wX12_byOrder cI cB  ) sz [.long x0, .long x1] (qX12_byOrder D cI cB  x0 x1) 0 0 := by
  refine met_std (by decide) rfl (Nat.le_of_ble_eq_true rfl) ?_
  intro p e s m below meth c A ls H hx hb hr hml hown hts hlocks hA hP hK hD hS hNW hl
  have hl : lv_has ls 4 [(0, .long x0), (2, .long x1)] := hl
  refine lv_lload_n hx hb dX12_byOrder_0 rfl (lv_at hl 0 rfl) ?_
  refine lv_lload_n hx hb dX12_byOrder_1 rfl (lv_at hl 1 rfl) ?_
  refine W.lcmp hx hb dX12_byOrder_2 ?_
  refine lv_if_ne (tgt := 10) hx hb dX12_byOrder_3 (by decide) (fun c_3 => ?_) (fun c_3 => ?_)
  · skip
    refine lv_lload_n hx hb dX12_byOrder_10 rfl (lv_at hl 0 rfl) ?_
    refine lv_lload_n hx hb dX12_byOrder_11 rfl (lv_at hl 1 rfl) ?_
    refine W.lcmp hx hb dX12_byOrder_12 ?_
    refine lv_if_ge (tgt := 20) hx hb dX12_byOrder_13 (by decide) (fun c_13 => ?_) (fun c_13 => ?_)
    · skip
      refine lv_iconst (v := 2) hx hb dX12_byOrder_20 (by decide) ?_
      have hf9 : 2 = fX12_byOrder x0 x1 := by simp only [fX12_byOrder]; (try simp only [if_neg c_3, if_pos c_13])
      exact W.iret hx hb hr (fun t9 ht9 hW9 => ⟨⟨2, (), rfl, hf9, ⟨by rw [ht9]; exact hP, va_K.moved hW9.alike hK, hD⟩⟩, hS.F ht9⟩) hS.2.2 dX12_byOrder_21
    · skip
      refine lv_iconst (v := 1) hx hb dX12_byOrder_16 (by decide) ?_
      refine lv_goto (tgt := 21) hx hb dX12_byOrder_17 (by decide) ?_
      have hf9 : 1 = fX12_byOrder x0 x1 := by simp only [fX12_byOrder]; (try simp only [if_neg c_3, if_neg c_13])
      exact W.iret hx hb hr (fun t9 ht9 hW9 => ⟨⟨1, (), rfl, hf9, ⟨by rw [ht9]; exact hP, va_K.moved hW9.alike hK, hD⟩⟩, hS.F ht9⟩) hS.2.2 dX12_byOrder_21
  · skip
    refine lv_iconst (v := 0) hx hb dX12_byOrder_6 (by decide) ?_
    refine lv_goto (tgt := 21) hx hb dX12_byOrder_7 (by decide) ?_
    have hf9 : 0 = fX12_byOrder x0 x1 := by simp only [fX12_byOrder]; (try simp only [if_pos c_3])
    exact W.iret hx hb hr (fun t9 ht9 hW9 => ⟨⟨0, (), rfl, hf9, ⟨by rw [ht9]; exact hP, va_K.moved hW9.alike hK, hD⟩⟩, hS.F ht9⟩) hS.2.2 dX12_byOrder_21
theorem hdX12_byOrder : yX12_byOrder.cls = RX12 ∧ yX12_byOrder.cls ≠ "java/lang/invoke/MethodHandle" ∧ yX12_byOrder.cls ≠ "java/lang/invoke/VarHandle" ∧ (parseMethodDescriptor yX12_byOrder.desc).map (fun d => d.parameters.length) = some 2 := by decide +kernel
noncomputable def fX12_plain (x0 : Int32) : Int64 :=
  ((x0 : Int32).toInt64 &&& 4294967295)
abbrev wX12_plain (cI cB : ClassId) : va_W := []
abbrev rmX12_plain : Room := { frames := 0, cells := 0, slots := 0, locals := 0 }
abbrev qX12_plain (D : va_G) (cI cB : ClassId) (x0 : Int32) : (Nat → Prop) → Array Value → State → Outcome → State → Prop := fun A9 => va_Ql (fun (r9 : Int64) (u9 : Unit) => r9 = fX12_plain x0) (fun u9 t9 => atW D (TYS cI cB) A9 (wX12_plain cI cB  ) t9) A9
set_option maxHeartbeats 4000000 in
set_option maxRecDepth 100000 in
theorem kX12_plain (l : Launch) (D : va_G) (cI cB : ClassId) (sz : Nat) (x0 : Int32) : MetW l yX12_plain (WK yX12_plain cX12_plain 1 (some .long)) rmX12_plain D (TYS cI cB) (wX12_plain cI cB  ) sz [.int x0] (qX12_plain D cI cB  x0) 0 0 := by
  refine met_std (by decide) rfl (Nat.le_of_ble_eq_true rfl) ?_
  intro p e s m below meth c A ls H hx hb hr hml hown hts hlocks hA hP hK hD hS hNW hl
  have hl : lv_has ls 1 [(0, .int x0)] := hl
  have q_0 := hts _ (List.mem_cons_of_mem _ wd_803)
  refine lv_iload_n hx hb dX12_plain_0 rfl (lv_at hl 0 rfl) ?_
  refine lv_i2l hx hb dX12_plain_1 rfl ?_
  refine lv_ldc2 (v := 4294967295) hx hb hown q_0 dX12_plain_2 ?_
  refine lv_land hx hb dX12_plain_5 ?_
  have hf9 : ((x0 : Int32).toInt64 &&& 4294967295) = fX12_plain x0 := by simp only [fX12_plain]
  exact W.lret hx hb hr (fun t9 ht9 hW9 => ⟨⟨((x0 : Int32).toInt64 &&& 4294967295), (), rfl, hf9, ⟨by rw [ht9]; exact hP, va_K.moved hW9.alike hK, hD⟩⟩, hS.F ht9⟩) hS.2.2 dX12_plain_6
theorem hdX12_plain : yX12_plain.cls = RX12 ∧ yX12_plain.cls ≠ "java/lang/invoke/MethodHandle" ∧ yX12_plain.cls ≠ "java/lang/invoke/VarHandle" ∧ (parseMethodDescriptor yX12_plain.desc).map (fun d => d.parameters.length) = some 1 := by decide +kernel
noncomputable def fX12_branchTo (x0 : Int32) (v_addr : Int32) : Int32 :=
  let x_5 := (x0 &&& 16777215)
  x_5
abbrev wX12_branchTo (cI cB : ClassId) (a_mo a_mem a_mks a_mr a_cnt a_wd a_one a_two a_mmade a_mrest a_old : Nat) (v_thrown : Int32) (v_mask : Int32) (v_key : Int32) (v_wait : Int32) (v_problem : Int32) (v_code : Int32) (v_length : Int32) (v_cond : Int32) (v_masks : Int32) (v_addr : Int32) (v_mwanted : Int32) (v_wrong : Int32) (v_after : Int32) (v_calls : Int32) (v_oneB : Int32) (v_twoB : Int32) : va_W := [(a_mo, .inr (12, [.int v_thrown, .ref a_mem, .ref a_mks, .ref a_mr, .int v_mask, .int v_key, .int v_wait, .int v_problem, .int v_code, .int v_length, .int v_cond, .int v_masks, .int v_addr, .int v_mwanted, .ref a_cnt, .ref a_wd, .int v_wrong, .int v_after, .int v_calls, .ref a_one, .int v_oneB, .ref a_two, .int v_twoB, .ref a_mmade, .ref a_mrest, .ref a_old]))]
abbrev rmX12_branchTo : Room := { frames := 0, cells := 0, slots := 0, locals := 0 }
abbrev qX12_branchTo (D : va_G) (cI cB : ClassId) (a_mo a_mem a_mks a_mr a_cnt a_wd a_one a_two a_mmade a_mrest a_old : Nat) (v_thrown : Int32) (v_mask : Int32) (v_key : Int32) (v_wait : Int32) (v_problem : Int32) (v_code : Int32) (v_length : Int32) (v_cond : Int32) (v_masks : Int32) (v_addr : Int32) (v_mwanted : Int32) (v_wrong : Int32) (v_after : Int32) (v_calls : Int32) (v_oneB : Int32) (v_twoB : Int32) (x0 : Int32) : (Nat → Prop) → Array Value → State → Outcome → State → Prop := fun A9 => va_Qv (fun (u9 : Int32) => u9 = fX12_branchTo x0 v_addr) (fun u9 t9 => atW D (TYS cI cB) A9 (wX12_branchTo cI cB a_mo a_mem a_mks a_mr a_cnt a_wd a_one a_two a_mmade a_mrest a_old v_thrown v_mask v_key v_wait v_problem v_code v_length v_cond v_masks u9 v_mwanted v_wrong v_after v_calls v_oneB v_twoB) t9) A9
set_option maxHeartbeats 4000000 in
set_option maxRecDepth 100000 in
theorem kX12_branchTo (l : Launch) (D : va_G) (cI cB : ClassId) (a_mo a_mem a_mks a_mr a_cnt a_wd a_one a_two a_mmade a_mrest a_old : Nat) (sz : Nat) (v_thrown : Int32) (v_mask : Int32) (v_key : Int32) (v_wait : Int32) (v_problem : Int32) (v_code : Int32) (v_length : Int32) (v_cond : Int32) (v_masks : Int32) (v_addr : Int32) (v_mwanted : Int32) (v_wrong : Int32) (v_after : Int32) (v_calls : Int32) (v_oneB : Int32) (v_twoB : Int32) (x0 : Int32) : MetW l yX12_branchTo (WK yX12_branchTo cX12_branchTo 2 none) rmX12_branchTo D (TYS cI cB) (wX12_branchTo cI cB a_mo a_mem a_mks a_mr a_cnt a_wd a_one a_two a_mmade a_mrest a_old v_thrown v_mask v_key v_wait v_problem v_code v_length v_cond v_masks v_addr v_mwanted v_wrong v_after v_calls v_oneB v_twoB) sz [.ref a_mo, .int x0] (qX12_branchTo D cI cB a_mo a_mem a_mks a_mr a_cnt a_wd a_one a_two a_mmade a_mrest a_old v_thrown v_mask v_key v_wait v_problem v_code v_length v_cond v_masks v_addr v_mwanted v_wrong v_after v_calls v_oneB v_twoB x0) 0 0 := by
  refine met_std (by decide) rfl (Nat.le_of_ble_eq_true rfl) ?_
  intro p e s m below meth c A ls H hx hb hr hml hown hts hlocks hA hP hK hD hS hNW hl
  have hl : lv_has ls 2 [(0, .ref a_mo), (1, .int x0)] := hl
  have q_0 := hts _ (List.mem_cons_of_mem _ wd_810)
  have q_1 := hts _ (List.mem_cons_of_mem _ wd_794)
  refine lv_aload_n hx hb dX12_branchTo_0 rfl (lv_at hl 0 rfl) ?_
  refine lv_iload_n hx hb dX12_branchTo_1 rfl (lv_at hl 1 rfl) ?_
  refine lv_ldc (v := 16777215) hx hb hown q_0 dX12_branchTo_2 ?_
  refine lv_iand hx hb dX12_branchTo_4 ?_
  refine lv_topi (fun x_5 ex_5 => ?_)
  refine va_put (D := D) (ci := 12) (v := .int x_5) (ty := .int) (C := RX12) (T := TX12) (N := 26) hx hb hts in_X12 tyX12 tyX12_ok nmX12 hown hK hP hD hS 0 rfl rfl 12 (by decide) q_1 (fun _ h9 => h9) rfl (by decide +kernel) rfl rfl (Nat.le_of_ble_eq_true rfl) dX12_branchTo_5 (fun H locs hP hD hS => ?_)
  have hP : va_P D vwCl (wX12_branchTo cI cB a_mo a_mem a_mks a_mr a_cnt a_wd a_one a_two a_mmade a_mrest a_old v_thrown v_mask v_key v_wait v_problem v_code v_length v_cond v_masks x_5 v_mwanted v_wrong v_after v_calls v_oneB v_twoB) H := hP
  have hD : va_D A (wX12_branchTo cI cB a_mo a_mem a_mks a_mr a_cnt a_wd a_one a_two a_mmade a_mrest a_old v_thrown v_mask v_key v_wait v_problem v_code v_length v_cond v_masks x_5 v_mwanted v_wrong v_after v_calls v_oneB v_twoB) := hD
  have hf9 : x_5 = fX12_branchTo x0 v_addr := by subst ex_5; simp only [fX12_branchTo]
  exact W.vret hx hb hr (fun t9 ht9 hW9 => ⟨⟨x_5, rfl, hf9, ⟨by rw [ht9]; exact hP, va_K.moved hW9.alike hK, hD⟩⟩, hS.F ht9⟩) hS.2.2 dX12_branchTo_8
theorem hdX12_branchTo : yX12_branchTo.cls = RX12 ∧ yX12_branchTo.cls ≠ "java/lang/invoke/MethodHandle" ∧ yX12_branchTo.cls ≠ "java/lang/invoke/VarHandle" ∧ (parseMethodDescriptor yX12_branchTo.desc).map (fun d => d.parameters.length) = some 1 := by decide +kernel
noncomputable def fX12_halvesOf (x0 : Int32) : Int32 :=
  if 64 ≤ x0 then (if 192 ≤ x0 then (3) else (2)) else (1)
abbrev wX12_halvesOf (cI cB : ClassId) : va_W := []
abbrev rmX12_halvesOf : Room := { frames := 0, cells := 0, slots := 0, locals := 0 }
abbrev qX12_halvesOf (D : va_G) (cI cB : ClassId) (x0 : Int32) : (Nat → Prop) → Array Value → State → Outcome → State → Prop := fun A9 => va_Qi (fun (r9 : Int32) (u9 : Unit) => r9 = fX12_halvesOf x0) (fun u9 t9 => atW D (TYS cI cB) A9 (wX12_halvesOf cI cB  ) t9) A9
set_option maxHeartbeats 4000000 in
set_option maxRecDepth 100000 in
theorem kX12_halvesOf (l : Launch) (D : va_G) (cI cB : ClassId) (sz : Nat) (x0 : Int32) : MetW l yX12_halvesOf (WK yX12_halvesOf cX12_halvesOf 1 (some .int)) rmX12_halvesOf D (TYS cI cB) (wX12_halvesOf cI cB  ) sz [.int x0] (qX12_halvesOf D cI cB  x0) 0 0 := by
  refine met_std (by decide) rfl (Nat.le_of_ble_eq_true rfl) ?_
  intro p e s m below meth c A ls H hx hb hr hml hown hts hlocks hA hP hK hD hS hNW hl
  have hl : lv_has ls 1 [(0, .int x0)] := hl
  refine lv_iload_n hx hb dX12_halvesOf_0 rfl (lv_at hl 0 rfl) ?_
  refine lv_bipush (v := 64) hx hb dX12_halvesOf_1 (by decide) ?_
  refine lv_icmp_ge (tgt := 10) hx hb dX12_halvesOf_3 (by decide) (fun c_3 => ?_) (fun c_3 => ?_)
  · skip
    refine lv_iload_n hx hb dX12_halvesOf_10 rfl (lv_at hl 0 rfl) ?_
    refine lv_sipush (v := 192) hx hb dX12_halvesOf_11 (by decide) ?_
    refine lv_icmp_ge (tgt := 21) hx hb dX12_halvesOf_14 (by decide) (fun c_14 => ?_) (fun c_14 => ?_)
    · skip
      refine lv_iconst (v := 3) hx hb dX12_halvesOf_21 (by decide) ?_
      have hf9 : 3 = fX12_halvesOf x0 := by simp only [fX12_halvesOf]; (try simp only [if_pos c_3, if_pos c_14])
      exact W.iret hx hb hr (fun t9 ht9 hW9 => ⟨⟨3, (), rfl, hf9, ⟨by rw [ht9]; exact hP, va_K.moved hW9.alike hK, hD⟩⟩, hS.F ht9⟩) hS.2.2 dX12_halvesOf_22
    · skip
      refine lv_iconst (v := 2) hx hb dX12_halvesOf_17 (by decide) ?_
      refine lv_goto (tgt := 22) hx hb dX12_halvesOf_18 (by decide) ?_
      have hf9 : 2 = fX12_halvesOf x0 := by simp only [fX12_halvesOf]; (try simp only [if_pos c_3, if_neg c_14])
      exact W.iret hx hb hr (fun t9 ht9 hW9 => ⟨⟨2, (), rfl, hf9, ⟨by rw [ht9]; exact hP, va_K.moved hW9.alike hK, hD⟩⟩, hS.F ht9⟩) hS.2.2 dX12_halvesOf_22
  · skip
    refine lv_iconst (v := 1) hx hb dX12_halvesOf_6 (by decide) ?_
    refine lv_goto (tgt := 22) hx hb dX12_halvesOf_7 (by decide) ?_
    have hf9 : 1 = fX12_halvesOf x0 := by simp only [fX12_halvesOf]; (try simp only [if_neg c_3])
    exact W.iret hx hb hr (fun t9 ht9 hW9 => ⟨⟨1, (), rfl, hf9, ⟨by rw [ht9]; exact hP, va_K.moved hW9.alike hK, hD⟩⟩, hS.F ht9⟩) hS.2.2 dX12_halvesOf_22
theorem hdX12_halvesOf : yX12_halvesOf.cls = RX12 ∧ yX12_halvesOf.cls ≠ "java/lang/invoke/MethodHandle" ∧ yX12_halvesOf.cls ≠ "java/lang/invoke/VarHandle" ∧ (parseMethodDescriptor yX12_halvesOf.desc).map (fun d => d.parameters.length) = some 1 := by decide +kernel
noncomputable def fX12_fixed (x0 : Int32) (x1 : Int32) (x2 : Int32) (v_cond : Int32) (v_masks : Int32) (v_after : Int32) (v_mrF : (Nat → Int32)) : (Int32 × Int32 × (Nat → Int32)) :=
  let f_6 := upd v_mrF (x0 : Int32).toNatClampNeg (x1)
  let m_20 : Int32 := (if x2 = 0 then (let r_17 := fX12_byNumber x1; r_17) else (3))
  if x2 = 0 then ((m_20, v_after, f_6)) else (if (v_masks &&& 8) = 0 then ((m_20, v_after, f_6)) else ((m_20, 8, f_6)))
abbrev wX12_fixed (cI cB : ClassId) (a_mo a_mem a_mks a_mr a_cnt a_wd a_one a_two a_mmade a_mrest a_old : Nat) (v_thrown : Int32) (v_mask : Int32) (v_key : Int32) (v_wait : Int32) (v_problem : Int32) (v_code : Int32) (v_length : Int32) (v_cond : Int32) (v_masks : Int32) (v_addr : Int32) (v_mwanted : Int32) (v_wrong : Int32) (v_after : Int32) (v_calls : Int32) (v_oneB : Int32) (v_twoB : Int32) (v_mrF : (Nat → Int32)) : va_W := [(a_mo, .inr (12, [.int v_thrown, .ref a_mem, .ref a_mks, .ref a_mr, .int v_mask, .int v_key, .int v_wait, .int v_problem, .int v_code, .int v_length, .int v_cond, .int v_masks, .int v_addr, .int v_mwanted, .ref a_cnt, .ref a_wd, .int v_wrong, .int v_after, .int v_calls, .ref a_one, .int v_oneB, .ref a_two, .int v_twoB, .ref a_mmade, .ref a_mrest, .ref a_old])), (a_mr, .inl (cI, 16, .inl v_mrF))]
abbrev rmX12_fixed : Room := { frames := 1, cells := 0, slots := 0, locals := 20 }
abbrev qX12_fixed (D : va_G) (cI cB : ClassId) (a_mo a_mem a_mks a_mr a_cnt a_wd a_one a_two a_mmade a_mrest a_old : Nat) (v_thrown : Int32) (v_mask : Int32) (v_key : Int32) (v_wait : Int32) (v_problem : Int32) (v_code : Int32) (v_length : Int32) (v_cond : Int32) (v_masks : Int32) (v_addr : Int32) (v_mwanted : Int32) (v_wrong : Int32) (v_after : Int32) (v_calls : Int32) (v_oneB : Int32) (v_twoB : Int32) (v_mrF : (Nat → Int32)) (x0 : Int32) (x1 : Int32) (x2 : Int32) : (Nat → Prop) → Array Value → State → Outcome → State → Prop := fun A9 => va_Qv (fun (u9 : (Int32 × Int32 × (Nat → Int32))) => u9 = fX12_fixed x0 x1 x2 v_cond v_masks v_after v_mrF) (fun u9 t9 => atW D (TYS cI cB) A9 (wX12_fixed cI cB a_mo a_mem a_mks a_mr a_cnt a_wd a_one a_two a_mmade a_mrest a_old v_thrown v_mask v_key v_wait v_problem v_code v_length u9.1 v_masks v_addr v_mwanted v_wrong u9.2.1 v_calls v_oneB v_twoB u9.2.2) t9) A9
set_option maxHeartbeats 4000000 in
set_option maxRecDepth 100000 in
theorem kX12_fixed (l : Launch) (D : va_G) (cI cB : ClassId) (a_mo a_mem a_mks a_mr a_cnt a_wd a_one a_two a_mmade a_mrest a_old : Nat) (sz : Nat) (v_thrown : Int32) (v_mask : Int32) (v_key : Int32) (v_wait : Int32) (v_problem : Int32) (v_code : Int32) (v_length : Int32) (v_cond : Int32) (v_masks : Int32) (v_addr : Int32) (v_mwanted : Int32) (v_wrong : Int32) (v_after : Int32) (v_calls : Int32) (v_oneB : Int32) (v_twoB : Int32) (v_mrF : (Nat → Int32)) (x0 : Int32) (x1 : Int32) (x2 : Int32) (hk : vp_in x0 16) : MetW l yX12_fixed (WK yX12_fixed cX12_fixed 4 none) rmX12_fixed D (TYS cI cB) (wX12_fixed cI cB a_mo a_mem a_mks a_mr a_cnt a_wd a_one a_two a_mmade a_mrest a_old v_thrown v_mask v_key v_wait v_problem v_code v_length v_cond v_masks v_addr v_mwanted v_wrong v_after v_calls v_oneB v_twoB v_mrF) sz [.ref a_mo, .int x0, .int x1, .int x2] (qX12_fixed D cI cB a_mo a_mem a_mks a_mr a_cnt a_wd a_one a_two a_mmade a_mrest a_old v_thrown v_mask v_key v_wait v_problem v_code v_length v_cond v_masks v_addr v_mwanted v_wrong v_after v_calls v_oneB v_twoB v_mrF x0 x1 x2) 0 0 := by
  refine met_std (by decide) rfl (Nat.le_of_ble_eq_true rfl) ?_
  intro p e s m below meth c A ls H hx hb hr hml hown hts hlocks hA hP hK hD hS hNW hl
  have hl : lv_has ls 4 [(0, .ref a_mo), (1, .int x0), (2, .int x1), (3, .int x2)] := hl
  have q_0 := hts _ (List.mem_cons_of_mem _ wd_779)
  have q_1 := hts _ (List.mem_cons_of_mem _ wd_792)
  have q_2 := hts _ (List.mem_cons_of_mem _ wd_793)
  have q_3 := hts _ (List.mem_cons_of_mem _ wd_848)
  refine lv_aload_n hx hb dX12_fixed_0 rfl (lv_at hl 0 rfl) ?_
  refine va_get (D := D) (ci := 12) (v := .ref a_mr) (C := RX12) (T := TX12) (N := 26) hx hb hts in_X12 hown hK hP 0 rfl rfl 3 (by decide) q_0 (fun _ h9 => h9) rfl dX12_fixed_1 ?_
  refine lv_iload_n hx hb dX12_fixed_4 rfl (lv_at hl 1 rfl) ?_
  refine lv_iload_n hx hb dX12_fixed_5 rfl (lv_at hl 2 rfl) ?_
  refine va_iast hx hb hK hP hD hS 1 0 rfl rfl (by first | with_reducible assumption | exact vin_of (b := 16) (by decide) (by with_reducible assumption) (by with_reducible assumption) | exact vin_of (b := 16) (by decide) (Int32.not_lt.mp (by with_reducible assumption)) (by with_reducible assumption) | exact vin_dn (by decide) (by with_reducible assumption) hI9) dX12_fixed_6 (fun H locs hP hD hS => ?_)
  obtain ⟨f_6, ef_6⟩ : ∃ z : Nat → Int32, z = upd v_mrF (x0 : Int32).toNatClampNeg (x1) := ⟨_, rfl⟩
  have hP : va_P D vwCl (wX12_fixed cI cB a_mo a_mem a_mks a_mr a_cnt a_wd a_one a_two a_mmade a_mrest a_old v_thrown v_mask v_key v_wait v_problem v_code v_length v_cond v_masks v_addr v_mwanted v_wrong v_after v_calls v_oneB v_twoB (upd v_mrF (x0 : Int32).toNatClampNeg (x1))) H := hP
  have hD : va_D A (wX12_fixed cI cB a_mo a_mem a_mks a_mr a_cnt a_wd a_one a_two a_mmade a_mrest a_old v_thrown v_mask v_key v_wait v_problem v_code v_length v_cond v_masks v_addr v_mwanted v_wrong v_after v_calls v_oneB v_twoB (upd v_mrF (x0 : Int32).toNatClampNeg (x1))) := hD
  rw [← ef_6] at hP hD
  refine lv_aload_n hx hb dX12_fixed_7 rfl (lv_at hl 0 rfl) ?_
  refine lv_iload_n hx hb dX12_fixed_8 rfl (lv_at hl 3 rfl) ?_
  have J_20 : ∀ (m_20 : Int32), m_20 = (if x2 = 0 then (let r_17 := fX12_byNumber x1; r_17) else (3)) → ∀ (H : Heap) (locs : List Loc), va_P D vwCl (wX12_fixed cI cB a_mo a_mem a_mks a_mr a_cnt a_wd a_one a_two a_mmade a_mrest a_old v_thrown v_mask v_key v_wait v_problem v_code v_length v_cond v_masks v_addr v_mwanted v_wrong v_after v_calls v_oneB v_twoB f_6) H → va_D A (wX12_fixed cI cB a_mo a_mem a_mks a_mr a_cnt a_wd a_one a_two a_mmade a_mrest a_old v_thrown v_mask v_key v_wait v_problem v_code v_length v_cond v_masks v_addr v_mwanted v_wrong v_after v_calls v_oneB v_twoB f_6) → va_S A s.heap H locs → ∀ (ls : Array Slot), lv_has ls 4 [(0, .ref a_mo), (1, .int x0), (2, .int x1), (3, .int x2)] → W p l e rmX12_fixed s m ([.ref a_mo, .int x0, .int x1, .int x2] : List Value).toArray below meth c H locs 0 0 (MQ below (qX12_fixed D cI cB a_mo a_mem a_mks a_mr a_cnt a_wd a_one a_two a_mmade a_mrest a_old v_thrown v_mask v_key v_wait v_problem v_code v_length v_cond v_masks v_addr v_mwanted v_wrong v_after v_calls v_oneB v_twoB v_mrF x0 x1 x2 A) ([.ref a_mo, .int x0, .int x1, .int x2] : List Value).toArray s 0 0 A) (F0 m 20 ls [.int m_20, .ref a_mo]) := by
    intro m_20 em_20 H locs hP hD hS ls hl
    try dsimp only at em_20
    refine va_put (D := D) (ci := 12) (v := .int m_20) (ty := .int) (C := RX12) (T := TX12) (N := 26) hx hb hts in_X12 tyX12 tyX12_ok nmX12 hown hK hP hD hS 0 rfl rfl 10 (by decide) q_1 (fun _ h9 => h9) rfl (by decide +kernel) rfl rfl (Nat.le_of_ble_eq_true rfl) dX12_fixed_20 (fun H locs hP hD hS => ?_)
    have hP : va_P D vwCl (wX12_fixed cI cB a_mo a_mem a_mks a_mr a_cnt a_wd a_one a_two a_mmade a_mrest a_old v_thrown v_mask v_key v_wait v_problem v_code v_length m_20 v_masks v_addr v_mwanted v_wrong v_after v_calls v_oneB v_twoB f_6) H := hP
    have hD : va_D A (wX12_fixed cI cB a_mo a_mem a_mks a_mr a_cnt a_wd a_one a_two a_mmade a_mrest a_old v_thrown v_mask v_key v_wait v_problem v_code v_length m_20 v_masks v_addr v_mwanted v_wrong v_after v_calls v_oneB v_twoB f_6) := hD
    refine lv_iload_n hx hb dX12_fixed_23 rfl (lv_at hl 3 rfl) ?_
    refine lv_if_eq (tgt := 43) hx hb dX12_fixed_24 (by decide) (fun c_24 => ?_) (fun c_24 => ?_)
    · skip
      have hf9 : (m_20, v_after, f_6) = fX12_fixed x0 x1 x2 v_cond v_masks v_after v_mrF := by subst ef_6; simp only [fX12_fixed, ← em_20]; (try simp only [if_pos c_24])
      exact W.vret hx hb hr (fun t9 ht9 hW9 => ⟨⟨(m_20, v_after, f_6), rfl, hf9, ⟨by rw [ht9]; exact hP, va_K.moved hW9.alike hK, hD⟩⟩, hS.F ht9⟩) hS.2.2 dX12_fixed_43
    · skip
      refine lv_aload_n hx hb dX12_fixed_27 rfl (lv_at hl 0 rfl) ?_
      refine va_get (D := D) (ci := 12) (v := .int v_masks) (C := RX12) (T := TX12) (N := 26) hx hb hts in_X12 hown hK hP 0 rfl rfl 11 (by decide) q_2 (fun _ h9 => h9) rfl dX12_fixed_28 ?_
      refine lv_bipush (v := 8) hx hb dX12_fixed_31 (by decide) ?_
      refine lv_iand hx hb dX12_fixed_33 ?_
      refine lv_if_eq (tgt := 43) hx hb dX12_fixed_34 (by decide) (fun c_34 => ?_) (fun c_34 => ?_)
      · skip
        have hf9 : (m_20, v_after, f_6) = fX12_fixed x0 x1 x2 v_cond v_masks v_after v_mrF := by subst ef_6; simp only [fX12_fixed, ← em_20]; (try simp only [if_neg c_24, if_pos c_34])
        exact W.vret hx hb hr (fun t9 ht9 hW9 => ⟨⟨(m_20, v_after, f_6), rfl, hf9, ⟨by rw [ht9]; exact hP, va_K.moved hW9.alike hK, hD⟩⟩, hS.F ht9⟩) hS.2.2 dX12_fixed_43
      · skip
        refine lv_aload_n hx hb dX12_fixed_37 rfl (lv_at hl 0 rfl) ?_
        refine lv_bipush (v := 8) hx hb dX12_fixed_38 (by decide) ?_
        refine va_put (D := D) (ci := 12) (v := .int 8) (ty := .int) (C := RX12) (T := TX12) (N := 26) hx hb hts in_X12 tyX12 tyX12_ok nmX12 hown hK hP hD hS 0 rfl rfl 17 (by decide) q_3 (fun _ h9 => h9) rfl (by decide +kernel) rfl rfl (Nat.le_of_ble_eq_true rfl) dX12_fixed_40 (fun H locs hP hD hS => ?_)
        have hP : va_P D vwCl (wX12_fixed cI cB a_mo a_mem a_mks a_mr a_cnt a_wd a_one a_two a_mmade a_mrest a_old v_thrown v_mask v_key v_wait v_problem v_code v_length m_20 v_masks v_addr v_mwanted v_wrong 8 v_calls v_oneB v_twoB f_6) H := hP
        have hD : va_D A (wX12_fixed cI cB a_mo a_mem a_mks a_mr a_cnt a_wd a_one a_two a_mmade a_mrest a_old v_thrown v_mask v_key v_wait v_problem v_code v_length m_20 v_masks v_addr v_mwanted v_wrong 8 v_calls v_oneB v_twoB f_6) := hD
        have hf9 : (m_20, 8, f_6) = fX12_fixed x0 x1 x2 v_cond v_masks v_after v_mrF := by subst ef_6; simp only [fX12_fixed, ← em_20]; (try simp only [if_neg c_24, if_neg c_34])
        exact W.vret hx hb hr (fun t9 ht9 hW9 => ⟨⟨(m_20, 8, f_6), rfl, hf9, ⟨by rw [ht9]; exact hP, va_K.moved hW9.alike hK, hD⟩⟩, hS.F ht9⟩) hS.2.2 dX12_fixed_43
  refine lv_if_eq (tgt := 16) hx hb dX12_fixed_9 (by decide) (fun c_9 => ?_) (fun c_9 => ?_)
  · skip
    refine lv_iload_n hx hb dX12_fixed_16 rfl (lv_at hl 2 rfl) ?_
    have hPc : va_P D vwCl (wX12_byNumber cI cB  ) H := hP.sub [] rfl
    have hDc : va_D A (wX12_byNumber cI cB  ) := hD.sub [] (by decide) rfl
    have hFc := va_free (wc := (wX12_byNumber cI cB  )) hD hS hA [] rfl
    refine va_calli (va_runS (As := [.int x1]) (rest := [.ref a_mo]) ⟨hx, hb, hml, hown, hts⟩ (kX12_byNumber l D cI cB  H.size  x1) (va_cwS 1 hts (gd_S wd_849 wd_850 wd_807 wd_844) rfl rfl rfl hdX12_byNumber.2 ⟨Nat.le_of_ble_eq_true rfl, Nat.le_of_ble_eq_true rfl⟩) (preS_std hPc hK hDc hNW) rfl rfl hl.1 rfl (lv_room (Nat.le_of_ble_eq_true rfl)) dX12_fixed_17 ⟨Nat.zero_le _, Nat.zero_le _⟩) hS (fun q _ h => hFc q h) hFc (fun r_17 u_17 t9 H1 locs ht9 hvm9 hw9 hB9 hz9 hk9 hS => ?_)
    have er_17 : r_17 = fX12_byNumber x1 := hw9
    obtain ⟨hP, hD⟩ := back_std (w1 := (wX12_byNumber cI cB  )) (w2 := (wX12_fixed cI cB a_mo a_mem a_mks a_mr a_cnt a_wd a_one a_two a_mmade a_mrest a_old v_thrown v_mask v_key v_wait v_problem v_code v_length v_cond v_masks v_addr v_mwanted v_wrong v_after v_calls v_oneB v_twoB f_6)) (wr := [(a_mo, .inr (12, [.int v_thrown, .ref a_mem, .ref a_mks, .ref a_mr, .int v_mask, .int v_key, .int v_wait, .int v_problem, .int v_code, .int v_length, .int v_cond, .int v_masks, .int v_addr, .int v_mwanted, .ref a_cnt, .ref a_wd, .int v_wrong, .int v_after, .int v_calls, .ref a_one, .int v_oneB, .ref a_two, .int v_twoB, .ref a_mmade, .ref a_mrest, .ref a_old])), (a_mr, .inl (cI, 16, .inl f_6))]) hP hD [] [0, 1] [0, 1] rfl rfl (by decide) (by decide) hk9 hFc hB9 ht9 (by decide) rfl
    clear hB9 hk9 hz9 hvm9 ht9 hFc hPc hDc
    generalize H1 = H at hP hS ⊢
    exact J_20 r_17 (by (try simp only [← er_17]); (try simp only [if_pos c_9])) _ _ hP hD hS ls (lv_sub hl [0, 1, 2, 3] rfl)
  · skip
    refine lv_iconst (v := 3) hx hb dX12_fixed_12 (by decide) ?_
    refine lv_goto (tgt := 20) hx hb dX12_fixed_13 (by decide) ?_
    exact J_20 3 (by (try simp only [if_neg c_9])) _ _ hP hD hS ls (lv_sub hl [0, 1, 2, 3] rfl)
theorem hdX12_fixed : yX12_fixed.cls = RX12 ∧ yX12_fixed.cls ≠ "java/lang/invoke/MethodHandle" ∧ yX12_fixed.cls ≠ "java/lang/invoke/VarHandle" ∧ (parseMethodDescriptor yX12_fixed.desc).map (fun d => d.parameters.length) = some 3 := by decide +kernel
noncomputable def fX12_based (x0 : Int32) (v_mrF : (Nat → Int32)) (v_wdF : (Nat → Int32)) : Int32 :=
  let x_8 := ((v_wdF (x0 : Int32).toNatClampNeg) >>> (4 &&& 31))
  let x_30 := ((((v_wdF (x0 : Int32).toNatClampNeg) &&& 15) <<< (8 &&& 31)) ||| (v_wdF ((x0 + 1) : Int32).toNatClampNeg))
  if x_8 = 0 then ((x_30 &&& 16777215)) else ((((v_mrF (x_8 : Int32).toNatClampNeg) + x_30) &&& 16777215))
abbrev wX12_based (cI cB : ClassId) (a_mo a_mem a_mks a_mr a_cnt a_wd a_one a_two a_mmade a_mrest a_old : Nat) (v_thrown : Int32) (v_mask : Int32) (v_key : Int32) (v_wait : Int32) (v_problem : Int32) (v_code : Int32) (v_length : Int32) (v_cond : Int32) (v_masks : Int32) (v_addr : Int32) (v_mwanted : Int32) (v_wrong : Int32) (v_after : Int32) (v_calls : Int32) (v_oneB : Int32) (v_twoB : Int32) (v_mrF : (Nat → Int32)) (v_wdF : (Nat → Int32)) : va_W := [(a_mo, .inr (12, [.int v_thrown, .ref a_mem, .ref a_mks, .ref a_mr, .int v_mask, .int v_key, .int v_wait, .int v_problem, .int v_code, .int v_length, .int v_cond, .int v_masks, .int v_addr, .int v_mwanted, .ref a_cnt, .ref a_wd, .int v_wrong, .int v_after, .int v_calls, .ref a_one, .int v_oneB, .ref a_two, .int v_twoB, .ref a_mmade, .ref a_mrest, .ref a_old])), (a_mr, .inl (cI, 16, .inl v_mrF)), (a_wd, .inl (cI, 6, .inl v_wdF))]
abbrev rmX12_based : Room := { frames := 0, cells := 0, slots := 0, locals := 0 }
abbrev qX12_based (D : va_G) (cI cB : ClassId) (a_mo a_mem a_mks a_mr a_cnt a_wd a_one a_two a_mmade a_mrest a_old : Nat) (v_thrown : Int32) (v_mask : Int32) (v_key : Int32) (v_wait : Int32) (v_problem : Int32) (v_code : Int32) (v_length : Int32) (v_cond : Int32) (v_masks : Int32) (v_addr : Int32) (v_mwanted : Int32) (v_wrong : Int32) (v_after : Int32) (v_calls : Int32) (v_oneB : Int32) (v_twoB : Int32) (v_mrF : (Nat → Int32)) (v_wdF : (Nat → Int32)) (x0 : Int32) : (Nat → Prop) → Array Value → State → Outcome → State → Prop := fun A9 => va_Qi (fun (r9 : Int32) (u9 : Unit) => r9 = fX12_based x0 v_mrF v_wdF) (fun u9 t9 => atW D (TYS cI cB) A9 (wX12_based cI cB a_mo a_mem a_mks a_mr a_cnt a_wd a_one a_two a_mmade a_mrest a_old v_thrown v_mask v_key v_wait v_problem v_code v_length v_cond v_masks v_addr v_mwanted v_wrong v_after v_calls v_oneB v_twoB v_mrF v_wdF) t9) A9
set_option maxHeartbeats 4000000 in
set_option maxRecDepth 100000 in
theorem kX12_based (l : Launch) (D : va_G) (cI cB : ClassId) (a_mo a_mem a_mks a_mr a_cnt a_wd a_one a_two a_mmade a_mrest a_old : Nat) (sz : Nat) (v_thrown : Int32) (v_mask : Int32) (v_key : Int32) (v_wait : Int32) (v_problem : Int32) (v_code : Int32) (v_length : Int32) (v_cond : Int32) (v_masks : Int32) (v_addr : Int32) (v_mwanted : Int32) (v_wrong : Int32) (v_after : Int32) (v_calls : Int32) (v_oneB : Int32) (v_twoB : Int32) (v_mrF : (Nat → Int32)) (v_wdF : (Nat → Int32)) (x0 : Int32) (hk : x0 = 2 ∨ x0 = 4) (hW : wdOk v_wdF) : MetW l yX12_based (WK yX12_based cX12_based 4 (some .int)) rmX12_based D (TYS cI cB) (wX12_based cI cB a_mo a_mem a_mks a_mr a_cnt a_wd a_one a_two a_mmade a_mrest a_old v_thrown v_mask v_key v_wait v_problem v_code v_length v_cond v_masks v_addr v_mwanted v_wrong v_after v_calls v_oneB v_twoB v_mrF v_wdF) sz [.ref a_mo, .int x0] (qX12_based D cI cB a_mo a_mem a_mks a_mr a_cnt a_wd a_one a_two a_mmade a_mrest a_old v_thrown v_mask v_key v_wait v_problem v_code v_length v_cond v_masks v_addr v_mwanted v_wrong v_after v_calls v_oneB v_twoB v_mrF v_wdF x0) 0 0 := by
  refine met_std (by decide) rfl (Nat.le_of_ble_eq_true rfl) ?_
  intro p e s m below meth c A ls H hx hb hr hml hown hts hlocks hA hP hK hD hS hNW hl
  have hl : lv_has ls 4 [(0, .ref a_mo), (1, .int x0)] := hl
  have q_0 := hts _ (List.mem_cons_of_mem _ wd_781)
  have q_1 := hts _ (List.mem_cons_of_mem _ wd_779)
  have q_2 := hts _ (List.mem_cons_of_mem _ wd_810)
  refine lv_aload_n hx hb dX12_based_0 rfl (lv_at hl 0 rfl) ?_
  refine va_get (D := D) (ci := 12) (v := .ref a_wd) (C := RX12) (T := TX12) (N := 26) hx hb hts in_X12 hown hK hP 0 rfl rfl 15 (by decide) q_0 (fun _ h9 => h9) rfl dX12_based_1 ?_
  refine lv_iload_n hx hb dX12_based_4 rfl (lv_at hl 1 rfl) ?_
  refine va_iald hx hb hK hP 2 0 rfl rfl (by rcases hk with rfl | rfl <;> (unfold vp_in; decide)) dX12_based_5 ?_
  refine lv_iconst (v := 4) hx hb dX12_based_6 (by decide) ?_
  refine lv_ishr hx hb dX12_based_7 ?_
  refine lv_topi (fun x_8 ex_8 => ?_)
  refine lv_istore_n (lv' := [(2, .int x_8), (0, .ref a_mo), (1, .int x0)]) hx hb dX12_based_8 rfl hl (by decide) rfl (fun ls hl => ?_)
  refine lv_aload_n hx hb dX12_based_9 rfl (lv_at hl 1 rfl) ?_
  refine va_get (D := D) (ci := 12) (v := .ref a_wd) (C := RX12) (T := TX12) (N := 26) hx hb hts in_X12 hown hK hP 0 rfl rfl 15 (by decide) q_0 (fun _ h9 => h9) rfl dX12_based_10 ?_
  refine lv_iload_n hx hb dX12_based_13 rfl (lv_at hl 2 rfl) ?_
  refine va_iald hx hb hK hP 2 0 rfl rfl (by rcases hk with rfl | rfl <;> (unfold vp_in; decide)) dX12_based_14 ?_
  refine lv_bipush (v := 15) hx hb dX12_based_15 (by decide) ?_
  refine lv_iand hx hb dX12_based_17 ?_
  refine lv_bipush (v := 8) hx hb dX12_based_18 (by decide) ?_
  refine lv_ishl hx hb dX12_based_20 ?_
  refine lv_aload_n hx hb dX12_based_21 rfl (lv_at hl 1 rfl) ?_
  refine va_get (D := D) (ci := 12) (v := .ref a_wd) (C := RX12) (T := TX12) (N := 26) hx hb hts in_X12 hown hK hP 0 rfl rfl 15 (by decide) q_0 (fun _ h9 => h9) rfl dX12_based_22 ?_
  refine lv_iload_n hx hb dX12_based_25 rfl (lv_at hl 2 rfl) ?_
  refine lv_iconst (v := 1) hx hb dX12_based_26 (by decide) ?_
  refine lv_iadd hx hb dX12_based_27 ?_
  refine va_iald hx hb hK hP 2 0 rfl rfl (by rcases hk with rfl | rfl <;> (unfold vp_in; decide)) dX12_based_28 ?_
  refine lv_ior hx hb dX12_based_29 ?_
  refine lv_topi (fun x_30 ex_30 => ?_)
  refine lv_istore_n (lv' := [(3, .int x_30), (2, .int x_8), (0, .ref a_mo), (1, .int x0)]) hx hb dX12_based_30 rfl hl (by decide) rfl (fun ls hl => ?_)
  refine lv_iload_n hx hb dX12_based_31 rfl (lv_at hl 1 rfl) ?_
  refine lv_if_ne (tgt := 39) hx hb dX12_based_32 (by decide) (fun c_32 => ?_) (fun c_32 => ?_)
  · skip
    refine lv_aload_n hx hb dX12_based_39 rfl (lv_at hl 2 rfl) ?_
    refine va_get (D := D) (ci := 12) (v := .ref a_mr) (C := RX12) (T := TX12) (N := 26) hx hb hts in_X12 hown hK hP 0 rfl rfl 3 (by decide) q_1 (fun _ h9 => h9) rfl dX12_based_40 ?_
    refine lv_iload_n hx hb dX12_based_43 rfl (lv_at hl 1 rfl) ?_
    refine va_iald hx hb hK hP 1 0 rfl rfl (nib ex_8 (hW _ (by rcases hk with rfl | rfl <;> decide))) dX12_based_44 ?_
    refine lv_iload_n hx hb dX12_based_45 rfl (lv_at hl 0 rfl) ?_
    refine lv_iadd hx hb dX12_based_46 ?_
    refine lv_ldc (v := 16777215) hx hb hown q_2 dX12_based_47 ?_
    refine lv_iand hx hb dX12_based_49 ?_
    have hf9 : (((v_mrF (x_8 : Int32).toNatClampNeg) + x_30) &&& 16777215) = fX12_based x0 v_mrF v_wdF := by subst ex_30; subst ex_8; simp only [fX12_based]; (try simp only [if_neg c_32])
    exact W.iret hx hb hr (fun t9 ht9 hW9 => ⟨⟨(((v_mrF (x_8 : Int32).toNatClampNeg) + x_30) &&& 16777215), (), rfl, hf9, ⟨by rw [ht9]; exact hP, va_K.moved hW9.alike hK, hD⟩⟩, hS.F ht9⟩) hS.2.2 dX12_based_50
  · skip
    refine lv_iload_n hx hb dX12_based_35 rfl (lv_at hl 0 rfl) ?_
    refine lv_goto (tgt := 47) hx hb dX12_based_36 (by decide) ?_
    refine lv_ldc (v := 16777215) hx hb hown q_2 dX12_based_47 ?_
    refine lv_iand hx hb dX12_based_49 ?_
    have hf9 : (x_30 &&& 16777215) = fX12_based x0 v_mrF v_wdF := by subst ex_30; subst ex_8; simp only [fX12_based]; (try simp only [if_pos c_32])
    exact W.iret hx hb hr (fun t9 ht9 hW9 => ⟨⟨(x_30 &&& 16777215), (), rfl, hf9, ⟨by rw [ht9]; exact hP, va_K.moved hW9.alike hK, hD⟩⟩, hS.F ht9⟩) hS.2.2 dX12_based_50
theorem hdX12_based : yX12_based.cls = RX12 ∧ yX12_based.cls ≠ "java/lang/invoke/MethodHandle" ∧ yX12_based.cls ≠ "java/lang/invoke/VarHandle" ∧ (parseMethodDescriptor yX12_based.desc).map (fun d => d.parameters.length) = some 1 := by decide +kernel
noncomputable def fX12_indexed (v_mrF : (Nat → Int32)) (v_wdF : (Nat → Int32)) : Int32 :=
  let x_9 := ((v_wdF (1 : Int32).toNatClampNeg) &&& 15)
  if x_9 = 0 then (let r_16 := fX12_based 2 v_mrF v_wdF; (r_16 &&& 16777215)) else (let r_24 := fX12_based 2 v_mrF v_wdF; ((r_24 + (v_mrF (x_9 : Int32).toNatClampNeg)) &&& 16777215))
abbrev wX12_indexed (cI cB : ClassId) (a_mo a_mem a_mks a_mr a_cnt a_wd a_one a_two a_mmade a_mrest a_old : Nat) (v_thrown : Int32) (v_mask : Int32) (v_key : Int32) (v_wait : Int32) (v_problem : Int32) (v_code : Int32) (v_length : Int32) (v_cond : Int32) (v_masks : Int32) (v_addr : Int32) (v_mwanted : Int32) (v_wrong : Int32) (v_after : Int32) (v_calls : Int32) (v_oneB : Int32) (v_twoB : Int32) (v_mrF : (Nat → Int32)) (v_wdF : (Nat → Int32)) : va_W := [(a_mo, .inr (12, [.int v_thrown, .ref a_mem, .ref a_mks, .ref a_mr, .int v_mask, .int v_key, .int v_wait, .int v_problem, .int v_code, .int v_length, .int v_cond, .int v_masks, .int v_addr, .int v_mwanted, .ref a_cnt, .ref a_wd, .int v_wrong, .int v_after, .int v_calls, .ref a_one, .int v_oneB, .ref a_two, .int v_twoB, .ref a_mmade, .ref a_mrest, .ref a_old])), (a_mr, .inl (cI, 16, .inl v_mrF)), (a_wd, .inl (cI, 6, .inl v_wdF))]
abbrev rmX12_indexed : Room := { frames := 1, cells := 0, slots := 0, locals := 23 }
abbrev qX12_indexed (D : va_G) (cI cB : ClassId) (a_mo a_mem a_mks a_mr a_cnt a_wd a_one a_two a_mmade a_mrest a_old : Nat) (v_thrown : Int32) (v_mask : Int32) (v_key : Int32) (v_wait : Int32) (v_problem : Int32) (v_code : Int32) (v_length : Int32) (v_cond : Int32) (v_masks : Int32) (v_addr : Int32) (v_mwanted : Int32) (v_wrong : Int32) (v_after : Int32) (v_calls : Int32) (v_oneB : Int32) (v_twoB : Int32) (v_mrF : (Nat → Int32)) (v_wdF : (Nat → Int32)) : (Nat → Prop) → Array Value → State → Outcome → State → Prop := fun A9 => va_Qi (fun (r9 : Int32) (u9 : Unit) => r9 = fX12_indexed v_mrF v_wdF) (fun u9 t9 => atW D (TYS cI cB) A9 (wX12_indexed cI cB a_mo a_mem a_mks a_mr a_cnt a_wd a_one a_two a_mmade a_mrest a_old v_thrown v_mask v_key v_wait v_problem v_code v_length v_cond v_masks v_addr v_mwanted v_wrong v_after v_calls v_oneB v_twoB v_mrF v_wdF) t9) A9
set_option maxHeartbeats 4000000 in
set_option maxRecDepth 100000 in
theorem kX12_indexed (l : Launch) (D : va_G) (cI cB : ClassId) (a_mo a_mem a_mks a_mr a_cnt a_wd a_one a_two a_mmade a_mrest a_old : Nat) (sz : Nat) (v_thrown : Int32) (v_mask : Int32) (v_key : Int32) (v_wait : Int32) (v_problem : Int32) (v_code : Int32) (v_length : Int32) (v_cond : Int32) (v_masks : Int32) (v_addr : Int32) (v_mwanted : Int32) (v_wrong : Int32) (v_after : Int32) (v_calls : Int32) (v_oneB : Int32) (v_twoB : Int32) (v_mrF : (Nat → Int32)) (v_wdF : (Nat → Int32)) (hW : wdOk v_wdF) : MetW l yX12_indexed (WK yX12_indexed cX12_indexed 2 (some .int)) rmX12_indexed D (TYS cI cB) (wX12_indexed cI cB a_mo a_mem a_mks a_mr a_cnt a_wd a_one a_two a_mmade a_mrest a_old v_thrown v_mask v_key v_wait v_problem v_code v_length v_cond v_masks v_addr v_mwanted v_wrong v_after v_calls v_oneB v_twoB v_mrF v_wdF) sz [.ref a_mo] (qX12_indexed D cI cB a_mo a_mem a_mks a_mr a_cnt a_wd a_one a_two a_mmade a_mrest a_old v_thrown v_mask v_key v_wait v_problem v_code v_length v_cond v_masks v_addr v_mwanted v_wrong v_after v_calls v_oneB v_twoB v_mrF v_wdF) 0 0 := by
  refine met_std (by decide) rfl (Nat.le_of_ble_eq_true rfl) ?_
  intro p e s m below meth c A ls H hx hb hr hml hown hts hlocks hA hP hK hD hS hNW hl
  have hl : lv_has ls 2 [(0, .ref a_mo)] := hl
  have q_0 := hts _ (List.mem_cons_of_mem _ wd_781)
  have q_1 := hts _ (List.mem_cons_of_mem _ wd_779)
  have q_2 := hts _ (List.mem_cons_of_mem _ wd_810)
  refine lv_aload_n hx hb dX12_indexed_0 rfl (lv_at hl 0 rfl) ?_
  refine va_get (D := D) (ci := 12) (v := .ref a_wd) (C := RX12) (T := TX12) (N := 26) hx hb hts in_X12 hown hK hP 0 rfl rfl 15 (by decide) q_0 (fun _ h9 => h9) rfl dX12_indexed_1 ?_
  refine lv_iconst (v := 1) hx hb dX12_indexed_4 (by decide) ?_
  refine va_iald hx hb hK hP 2 0 rfl rfl (by unfold vp_in; decide) dX12_indexed_5 ?_
  refine lv_bipush (v := 15) hx hb dX12_indexed_6 (by decide) ?_
  refine lv_iand hx hb dX12_indexed_8 ?_
  refine lv_topi (fun x_9 ex_9 => ?_)
  refine lv_istore_n (lv' := [(1, .int x_9), (0, .ref a_mo)]) hx hb dX12_indexed_9 rfl hl (by decide) rfl (fun ls hl => ?_)
  refine lv_iload_n hx hb dX12_indexed_10 rfl (lv_at hl 0 rfl) ?_
  refine lv_if_ne (tgt := 22) hx hb dX12_indexed_11 (by decide) (fun c_11 => ?_) (fun c_11 => ?_)
  · skip
    refine lv_aload_n hx hb dX12_indexed_22 rfl (lv_at hl 1 rfl) ?_
    refine lv_iconst (v := 2) hx hb dX12_indexed_23 (by decide) ?_
    have hPc : va_P D vwCl (wX12_based cI cB a_mo a_mem a_mks a_mr a_cnt a_wd a_one a_two a_mmade a_mrest a_old v_thrown v_mask v_key v_wait v_problem v_code v_length v_cond v_masks v_addr v_mwanted v_wrong v_after v_calls v_oneB v_twoB v_mrF v_wdF) H := hP.sub [0, 1, 2] rfl
    have hDc : va_D A (wX12_based cI cB a_mo a_mem a_mks a_mr a_cnt a_wd a_one a_two a_mmade a_mrest a_old v_thrown v_mask v_key v_wait v_problem v_code v_length v_cond v_masks v_addr v_mwanted v_wrong v_after v_calls v_oneB v_twoB v_mrF v_wdF) := hD.sub [0, 1, 2] (by decide) rfl
    have hFc := va_free (wc := (wX12_based cI cB a_mo a_mem a_mks a_mr a_cnt a_wd a_one a_two a_mmade a_mrest a_old v_thrown v_mask v_key v_wait v_problem v_code v_length v_cond v_masks v_addr v_mwanted v_wrong v_after v_calls v_oneB v_twoB v_mrF v_wdF)) hD hS hA [0, 1, 2] rfl
    refine va_calli (va_runV (As := [.int 2]) (rest := []) ⟨hx, hb, hml, hown, hts⟩ (kX12_based l D cI cB a_mo a_mem a_mks a_mr a_cnt a_wd a_one a_two a_mmade a_mrest a_old H.size v_thrown v_mask v_key v_wait v_problem v_code v_length v_cond v_masks v_addr v_mwanted v_wrong v_after v_calls v_oneB v_twoB v_mrF v_wdF 2 (by first | with_reducible assumption | decide | (unfold vp_in; decide)) (by first | with_reducible assumption | decide | (unfold vp_in; decide))) (cwV 1 hts (gd_V wd_853 wd_854 wd_855 wd_807 wd_851) rfl rfl rfl hdX12_based ⟨Nat.le_of_ble_eq_true rfl, Nat.le_of_ble_eq_true rfl⟩) (preV_std (ci := 12) (q0 := 0) hPc hK hDc hNW rfl rfl) rfl rfl hl.1 rfl (lv_room (Nat.le_of_ble_eq_true rfl)) dX12_indexed_24 ⟨Nat.zero_le _, Nat.zero_le _⟩) hS (fun q _ h => hFc q h) hFc (fun r_24 u_24 t9 H1 locs ht9 hvm9 hw9 hB9 hz9 hk9 hS => ?_)
    have er_24 : r_24 = fX12_based 2 v_mrF v_wdF := hw9
    obtain ⟨hP, hD⟩ := back_std (w1 := (wX12_based cI cB a_mo a_mem a_mks a_mr a_cnt a_wd a_one a_two a_mmade a_mrest a_old v_thrown v_mask v_key v_wait v_problem v_code v_length v_cond v_masks v_addr v_mwanted v_wrong v_after v_calls v_oneB v_twoB v_mrF v_wdF)) (w2 := (wX12_indexed cI cB a_mo a_mem a_mks a_mr a_cnt a_wd a_one a_two a_mmade a_mrest a_old v_thrown v_mask v_key v_wait v_problem v_code v_length v_cond v_masks v_addr v_mwanted v_wrong v_after v_calls v_oneB v_twoB v_mrF v_wdF)) (wr := []) hP hD [0, 1, 2] [] [0, 1, 2] rfl rfl (by decide) (by decide) hk9 hFc hB9 ht9 (by decide) rfl
    clear hB9 hk9 hz9 hvm9 ht9 hFc hPc hDc
    generalize H1 = H at hP hS ⊢
    refine lv_aload_n hx hb dX12_indexed_27 rfl (lv_at hl 1 rfl) ?_
    refine va_get (D := D) (ci := 12) (v := .ref a_mr) (C := RX12) (T := TX12) (N := 26) hx hb hts in_X12 hown hK hP 0 rfl rfl 3 (by decide) q_1 (fun _ h9 => h9) rfl dX12_indexed_28 ?_
    refine lv_iload_n hx hb dX12_indexed_31 rfl (lv_at hl 0 rfl) ?_
    refine va_iald hx hb hK hP 1 0 rfl rfl (by rw [ex_9]; exact pk_andIn _ 4 (by decide) (by decide)) dX12_indexed_32 ?_
    refine lv_iadd hx hb dX12_indexed_33 ?_
    refine lv_ldc (v := 16777215) hx hb hown q_2 dX12_indexed_34 ?_
    refine lv_iand hx hb dX12_indexed_36 ?_
    have hf9 : ((r_24 + (v_mrF (x_9 : Int32).toNatClampNeg)) &&& 16777215) = fX12_indexed v_mrF v_wdF := by subst ex_9; simp only [fX12_indexed, ← er_24]; (try simp only [if_neg c_11])
    exact W.iret hx hb hr (fun t9 ht9 hW9 => ⟨⟨((r_24 + (v_mrF (x_9 : Int32).toNatClampNeg)) &&& 16777215), (), rfl, hf9, ⟨by rw [ht9]; exact hP, va_K.moved hW9.alike hK, hD⟩⟩, hS.F ht9⟩) hS.2.2 dX12_indexed_37
  · skip
    refine lv_aload_n hx hb dX12_indexed_14 rfl (lv_at hl 1 rfl) ?_
    refine lv_iconst (v := 2) hx hb dX12_indexed_15 (by decide) ?_
    have hPc : va_P D vwCl (wX12_based cI cB a_mo a_mem a_mks a_mr a_cnt a_wd a_one a_two a_mmade a_mrest a_old v_thrown v_mask v_key v_wait v_problem v_code v_length v_cond v_masks v_addr v_mwanted v_wrong v_after v_calls v_oneB v_twoB v_mrF v_wdF) H := hP.sub [0, 1, 2] rfl
    have hDc : va_D A (wX12_based cI cB a_mo a_mem a_mks a_mr a_cnt a_wd a_one a_two a_mmade a_mrest a_old v_thrown v_mask v_key v_wait v_problem v_code v_length v_cond v_masks v_addr v_mwanted v_wrong v_after v_calls v_oneB v_twoB v_mrF v_wdF) := hD.sub [0, 1, 2] (by decide) rfl
    have hFc := va_free (wc := (wX12_based cI cB a_mo a_mem a_mks a_mr a_cnt a_wd a_one a_two a_mmade a_mrest a_old v_thrown v_mask v_key v_wait v_problem v_code v_length v_cond v_masks v_addr v_mwanted v_wrong v_after v_calls v_oneB v_twoB v_mrF v_wdF)) hD hS hA [0, 1, 2] rfl
    refine va_calli (va_runV (As := [.int 2]) (rest := []) ⟨hx, hb, hml, hown, hts⟩ (kX12_based l D cI cB a_mo a_mem a_mks a_mr a_cnt a_wd a_one a_two a_mmade a_mrest a_old H.size v_thrown v_mask v_key v_wait v_problem v_code v_length v_cond v_masks v_addr v_mwanted v_wrong v_after v_calls v_oneB v_twoB v_mrF v_wdF 2 (by first | with_reducible assumption | decide | (unfold vp_in; decide)) (by first | with_reducible assumption | decide | (unfold vp_in; decide))) (cwV 1 hts (gd_V wd_853 wd_854 wd_855 wd_807 wd_851) rfl rfl rfl hdX12_based ⟨Nat.le_of_ble_eq_true rfl, Nat.le_of_ble_eq_true rfl⟩) (preV_std (ci := 12) (q0 := 0) hPc hK hDc hNW rfl rfl) rfl rfl hl.1 rfl (lv_room (Nat.le_of_ble_eq_true rfl)) dX12_indexed_16 ⟨Nat.zero_le _, Nat.zero_le _⟩) hS (fun q _ h => hFc q h) hFc (fun r_16 u_16 t9 H1 locs ht9 hvm9 hw9 hB9 hz9 hk9 hS => ?_)
    have er_16 : r_16 = fX12_based 2 v_mrF v_wdF := hw9
    obtain ⟨hP, hD⟩ := back_std (w1 := (wX12_based cI cB a_mo a_mem a_mks a_mr a_cnt a_wd a_one a_two a_mmade a_mrest a_old v_thrown v_mask v_key v_wait v_problem v_code v_length v_cond v_masks v_addr v_mwanted v_wrong v_after v_calls v_oneB v_twoB v_mrF v_wdF)) (w2 := (wX12_indexed cI cB a_mo a_mem a_mks a_mr a_cnt a_wd a_one a_two a_mmade a_mrest a_old v_thrown v_mask v_key v_wait v_problem v_code v_length v_cond v_masks v_addr v_mwanted v_wrong v_after v_calls v_oneB v_twoB v_mrF v_wdF)) (wr := []) hP hD [0, 1, 2] [] [0, 1, 2] rfl rfl (by decide) (by decide) hk9 hFc hB9 ht9 (by decide) rfl
    clear hB9 hk9 hz9 hvm9 ht9 hFc hPc hDc
    generalize H1 = H at hP hS ⊢
    refine lv_goto (tgt := 34) hx hb dX12_indexed_19 (by decide) ?_
    refine lv_ldc (v := 16777215) hx hb hown q_2 dX12_indexed_34 ?_
    refine lv_iand hx hb dX12_indexed_36 ?_
    have hf9 : (r_16 &&& 16777215) = fX12_indexed v_mrF v_wdF := by subst ex_9; simp only [fX12_indexed, ← er_16]; (try simp only [if_pos c_11])
    exact W.iret hx hb hr (fun t9 ht9 hW9 => ⟨⟨(r_16 &&& 16777215), (), rfl, hf9, ⟨by rw [ht9]; exact hP, va_K.moved hW9.alike hK, hD⟩⟩, hS.F ht9⟩) hS.2.2 dX12_indexed_37
theorem hdX12_indexed : yX12_indexed.cls = RX12 ∧ yX12_indexed.cls ≠ "java/lang/invoke/MethodHandle" ∧ yX12_indexed.cls ≠ "java/lang/invoke/VarHandle" ∧ (parseMethodDescriptor yX12_indexed.desc).map (fun d => d.parameters.length) = some 0 := by decide +kernel
