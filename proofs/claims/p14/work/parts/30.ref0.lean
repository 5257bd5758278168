noncomputable def fX12_thrown (v_thrown : Int32) : Int32 :=
  v_thrown
noncomputable def fX12_register (x0 : Int32) (v_thrown : Int32) (v_mrF : (Nat → Int32)) : (Int32 × Int32) :=
  let m_16 : Int32 := (if x0 < 0 then (1) else (if x0 ≤ 15 then (0) else (1)))
  if m_16 ≤ 0 then (((v_mrF (x0 : Int32).toNatClampNeg), m_16)) else ((0, m_16))
abbrev wX12_register (cI cB : ClassId) (a_mo a_mem a_mks a_mr a_cnt a_wd a_one a_two a_mmade a_mrest a_old : Nat) (v_thrown : Int32) (v_mask : Int32) (v_key : Int32) (v_wait : Int32) (v_problem : Int32) (v_code : Int32) (v_length : Int32) (v_cond : Int32) (v_masks : Int32) (v_addr : Int32) (v_mwanted : Int32) (v_wrong : Int32) (v_after : Int32) (v_calls : Int32) (v_oneB : Int32) (v_twoB : Int32) (v_mrF : (Nat → Int32)) : va_W := [(a_mo, .inr (12, [.int v_thrown, .ref a_mem, .ref a_mks, .ref a_mr, .int v_mask, .int v_key, .int v_wait, .int v_problem, .int v_code, .int v_length, .int v_cond, .int v_masks, .int v_addr, .int v_mwanted, .ref a_cnt, .ref a_wd, .int v_wrong, .int v_after, .int v_calls, .ref a_one, .int v_oneB, .ref a_two, .int v_twoB, .ref a_mmade, .ref a_mrest, .ref a_old])), (a_mr, .inl (cI, 16, .inl v_mrF))]
abbrev rmX12_register : Room := { frames := 0, cells := 0, slots := 0, locals := 0 }
abbrev qX12_register (D : va_G) (cI cB : ClassId) (a_mo a_mem a_mks a_mr a_cnt a_wd a_one a_two a_mmade a_mrest a_old : Nat) (v_thrown : Int32) (v_mask : Int32) (v_key : Int32) (v_wait : Int32) (v_problem : Int32) (v_code : Int32) (v_length : Int32) (v_cond : Int32) (v_masks : Int32) (v_addr : Int32) (v_mwanted : Int32) (v_wrong : Int32) (v_after : Int32) (v_calls : Int32) (v_oneB : Int32) (v_twoB : Int32) (v_mrF : (Nat → Int32)) (x0 : Int32) : (Nat → Prop) → Array Value → State → Outcome → State → Prop := fun A9 => va_Qi (fun (r9 : Int32) (u9 : Int32) => r9 = (fX12_register x0 v_thrown v_mrF).1 ∧ u9 = (fX12_register x0 v_thrown v_mrF).2) (fun u9 t9 => atW D (TYS cI cB) A9 (wX12_register cI cB a_mo a_mem a_mks a_mr a_cnt a_wd a_one a_two a_mmade a_mrest a_old u9 v_mask v_key v_wait v_problem v_code v_length v_cond v_masks v_addr v_mwanted v_wrong v_after v_calls v_oneB v_twoB v_mrF) t9) A9
set_option maxHeartbeats 4000000 in
set_option maxRecDepth 100000 in
theorem kX12_register (l : Launch) (D : va_G) (cI cB : ClassId) (a_mo a_mem a_mks a_mr a_cnt a_wd a_one a_two a_mmade a_mrest a_old : Nat) (sz : Nat) (v_thrown : Int32) (v_mask : Int32) (v_key : Int32) (v_wait : Int32) (v_problem : Int32) (v_code : Int32) (v_length : Int32) (v_cond : Int32) (v_masks : Int32) (v_addr : Int32) (v_mwanted : Int32) (v_wrong : Int32) (v_after : Int32) (v_calls : Int32) (v_oneB : Int32) (v_twoB : Int32) (v_mrF : (Nat → Int32)) (x0 : Int32) : MetW l yX12_register (WK yX12_register cX12_register 2 (some .int)) rmX12_register D (TYS cI cB) (wX12_register cI cB a_mo a_mem a_mks a_mr a_cnt a_wd a_one a_two a_mmade a_mrest a_old v_thrown v_mask v_key v_wait v_problem v_code v_length v_cond v_masks v_addr v_mwanted v_wrong v_after v_calls v_oneB v_twoB v_mrF) sz [.ref a_mo, .int x0] (qX12_register D cI cB a_mo a_mem a_mks a_mr a_cnt a_wd a_one a_two a_mmade a_mrest a_old v_thrown v_mask v_key v_wait v_problem v_code v_length v_cond v_masks v_addr v_mwanted v_wrong v_after v_calls v_oneB v_twoB v_mrF x0) 0 0 := by
  refine met_std (by decide) rfl (Nat.le_of_ble_eq_true rfl) ?_
  intro p e s m below meth c A ls H hx hb hr hml hown hts hlocks hA hP hK hD hS hNW hl
  have hl : lv_has ls 2 [(0, .ref a_mo), (1, .int x0)] := hl
  have q_0 := hts _ (List.mem_cons_of_mem _ wd_788)
  have q_1 := hts _ (List.mem_cons_of_mem _ wd_779)
  refine lv_aload_n hx hb dX12_register_0 rfl (lv_at hl 0 rfl) ?_
  refine lv_iload_n hx hb dX12_register_1 rfl (lv_at hl 1 rfl) ?_
  have J_16 : ∀ (m_16 : Int32), m_16 = (if x0 < 0 then (1) else (if x0 ≤ 15 then (0) else (1))) → ∀ (H : Heap) (locs : List Loc), va_P D vwCl (wX12_register cI cB a_mo a_mem a_mks a_mr a_cnt a_wd a_one a_two a_mmade a_mrest a_old v_thrown v_mask v_key v_wait v_problem v_code v_length v_cond v_masks v_addr v_mwanted v_wrong v_after v_calls v_oneB v_twoB v_mrF) H → va_D A (wX12_register cI cB a_mo a_mem a_mks a_mr a_cnt a_wd a_one a_two a_mmade a_mrest a_old v_thrown v_mask v_key v_wait v_problem v_code v_length v_cond v_masks v_addr v_mwanted v_wrong v_after v_calls v_oneB v_twoB v_mrF) → va_S A s.heap H locs → ∀ (ls : Array Slot), lv_has ls 2 [(0, .ref a_mo), (1, .int x0)] → W p l e rmX12_register s m ([.ref a_mo, .int x0] : List Value).toArray below meth c H locs 0 0 (MQ below (qX12_register D cI cB a_mo a_mem a_mks a_mr a_cnt a_wd a_one a_two a_mmade a_mrest a_old v_thrown v_mask v_key v_wait v_problem v_code v_length v_cond v_masks v_addr v_mwanted v_wrong v_after v_calls v_oneB v_twoB v_mrF x0 A) ([.ref a_mo, .int x0] : List Value).toArray s 0 0 A) (F0 m 16 ls [.int m_16, .ref a_mo]) := by
    intro m_16 em_16 H locs hP hD hS ls hl
    try dsimp only at em_16
    have zm_16_0 : m_16 = 0 ∨ m_16 = 1 := by rw [em_16]; (try dsimp only); (repeat' split) <;> first | exact Or.inl rfl | exact Or.inr rfl
    refine va_put (D := D) (ci := 12) (v := .int m_16) (ty := .int) (C := RX12) (T := TX12) (N := 26) hx hb hts in_X12 tyX12 tyX12_ok nmX12 hown hK hP hD hS 0 rfl rfl 0 (by decide) q_0 (fun _ h9 => h9) rfl (by decide +kernel) rfl rfl (Nat.le_of_ble_eq_true rfl) dX12_register_16 (fun H locs hP hD hS => ?_)
    have hP : va_P D vwCl (wX12_register cI cB a_mo a_mem a_mks a_mr a_cnt a_wd a_one a_two a_mmade a_mrest a_old m_16 v_mask v_key v_wait v_problem v_code v_length v_cond v_masks v_addr v_mwanted v_wrong v_after v_calls v_oneB v_twoB v_mrF) H := hP
    have hD : va_D A (wX12_register cI cB a_mo a_mem a_mks a_mr a_cnt a_wd a_one a_two a_mmade a_mrest a_old m_16 v_mask v_key v_wait v_problem v_code v_length v_cond v_masks v_addr v_mwanted v_wrong v_after v_calls v_oneB v_twoB v_mrF) := hD
    refine lv_aload_n hx hb dX12_register_19 rfl (lv_at hl 0 rfl) ?_
    refine va_get (D := D) (ci := 12) (v := .int m_16) (C := RX12) (T := TX12) (N := 26) hx hb hts in_X12 hown hK hP 0 rfl rfl 0 (by decide) q_0 (fun _ h9 => h9) rfl dX12_register_20 ?_
    refine lv_if_le (tgt := 30) hx hb dX12_register_23 (by decide) (fun c_23 => ?_) (fun c_23 => ?_)
    · skip
      refine lv_aload_n hx hb dX12_register_30 rfl (lv_at hl 0 rfl) ?_
      refine va_get (D := D) (ci := 12) (v := .ref a_mr) (C := RX12) (T := TX12) (N := 26) hx hb hts in_X12 hown hK hP 0 rfl rfl 3 (by decide) q_1 (fun _ h9 => h9) rfl dX12_register_31 ?_
      refine lv_iload_n hx hb dX12_register_34 rfl (lv_at hl 1 rfl) ?_
      refine va_iald hx hb hK hP 1 0 rfl rfl (rg_in (B := 15) (by decide) em_16 c_23) dX12_register_35 ?_
      have hf9 : ((v_mrF (x0 : Int32).toNatClampNeg), m_16) = fX12_register x0 v_thrown v_mrF := by simp only [fX12_register, ← em_16]; (try simp only [if_pos c_23])
      exact W.iret hx hb hr (fun t9 ht9 hW9 => ⟨⟨(v_mrF (x0 : Int32).toNatClampNeg), m_16, rfl, ⟨by rw [← hf9], by rw [← hf9]⟩, ⟨by rw [ht9]; exact hP, va_K.moved hW9.alike hK, hD⟩⟩, hS.F ht9⟩) hS.2.2 dX12_register_36
    · skip
      refine lv_iconst (v := 0) hx hb dX12_register_26 (by decide) ?_
      refine lv_goto (tgt := 36) hx hb dX12_register_27 (by decide) ?_
      have hf9 : (0, m_16) = fX12_register x0 v_thrown v_mrF := by simp only [fX12_register, ← em_16]; (try simp only [if_neg c_23])
      exact W.iret hx hb hr (fun t9 ht9 hW9 => ⟨⟨0, m_16, rfl, ⟨by rw [← hf9], by rw [← hf9]⟩, ⟨by rw [ht9]; exact hP, va_K.moved hW9.alike hK, hD⟩⟩, hS.F ht9⟩) hS.2.2 dX12_register_36
  refine lv_if_lt (tgt := 11) hx hb dX12_register_2 (by decide) (fun c_2 => ?_) (fun c_2 => ?_)
  · skip
    refine lv_iconst (v := 1) hx hb dX12_register_11 (by decide) ?_
    refine lv_goto (tgt := 16) hx hb dX12_register_12 (by decide) ?_
    exact J_16 1 (by (try simp only [if_pos c_2])) _ _ hP hD hS ls (lv_sub hl [0, 1] rfl)
  · skip
    refine lv_iload_n hx hb dX12_register_5 rfl (lv_at hl 1 rfl) ?_
    refine lv_bipush (v := 15) hx hb dX12_register_6 (by decide) ?_
    refine lv_icmp_le (tgt := 15) hx hb dX12_register_8 (by decide) (fun c_8 => ?_) (fun c_8 => ?_)
    · skip
      refine lv_iconst (v := 0) hx hb dX12_register_15 (by decide) ?_
      exact J_16 0 (by (try simp only [if_neg c_2, if_pos c_8])) _ _ hP hD hS ls (lv_sub hl [0, 1] rfl)
    · skip
      refine lv_iconst (v := 1) hx hb dX12_register_11 (by decide) ?_
      refine lv_goto (tgt := 16) hx hb dX12_register_12 (by decide) ?_
      exact J_16 1 (by (try simp only [if_neg c_2, if_neg c_8])) _ _ hP hD hS ls (lv_sub hl [0, 1] rfl)
theorem hdX12_register : yX12_register.cls = RX12 ∧ yX12_register.cls ≠ "java/lang/invoke/MethodHandle" ∧ yX12_register.cls ≠ "java/lang/invoke/VarHandle" ∧ (parseMethodDescriptor yX12_register.desc).map (fun d => d.parameters.length) = some 1 := by decide +kernel
noncomputable def fX12_put (x0 : Int32) (x1 : Int32) (v_thrown : Int32) (v_mrF : (Nat → Int32)) : (Int32 × (Nat → Int32)) :=
  let m_16 : Int32 := (if x0 < 0 then (1) else (if x0 ≤ 15 then (0) else (1)))
  if m_16 = 0 then (let f_32 := upd v_mrF (x0 : Int32).toNatClampNeg (x1); (m_16, f_32)) else ((m_16, v_mrF))
abbrev wX12_put (cI cB : ClassId) (a_mo a_mem a_mks a_mr a_cnt a_wd a_one a_two a_mmade a_mrest a_old : Nat) (v_thrown : Int32) (v_mask : Int32) (v_key : Int32) (v_wait : Int32) (v_problem : Int32) (v_code : Int32) (v_length : Int32) (v_cond : Int32) (v_masks : Int32) (v_addr : Int32) (v_mwanted : Int32) (v_wrong : Int32) (v_after : Int32) (v_calls : Int32) (v_oneB : Int32) (v_twoB : Int32) (v_mrF : (Nat → Int32)) : va_W := [(a_mo, .inr (12, [.int v_thrown, .ref a_mem, .ref a_mks, .ref a_mr, .int v_mask, .int v_key, .int v_wait, .int v_problem, .int v_code, .int v_length, .int v_cond, .int v_masks, .int v_addr, .int v_mwanted, .ref a_cnt, .ref a_wd, .int v_wrong, .int v_after, .int v_calls, .ref a_one, .int v_oneB, .ref a_two, .int v_twoB, .ref a_mmade, .ref a_mrest, .ref a_old])), (a_mr, .inl (cI, 16, .inl v_mrF))]
abbrev rmX12_put : Room := { frames := 0, cells := 0, slots := 0, locals := 0 }
abbrev qX12_put (D : va_G) (cI cB : ClassId) (a_mo a_mem a_mks a_mr a_cnt a_wd a_one a_two a_mmade a_mrest a_old : Nat) (v_thrown : Int32) (v_mask : Int32) (v_key : Int32) (v_wait : Int32) (v_problem : Int32) (v_code : Int32) (v_length : Int32) (v_cond : Int32) (v_masks : Int32) (v_addr : Int32) (v_mwanted : Int32) (v_wrong : Int32) (v_after : Int32) (v_calls : Int32) (v_oneB : Int32) (v_twoB : Int32) (v_mrF : (Nat → Int32)) (x0 : Int32) (x1 : Int32) : (Nat → Prop) → Array Value → State → Outcome → State → Prop := fun A9 => va_Qv (fun (u9 : (Int32 × (Nat → Int32))) => u9 = fX12_put x0 x1 v_thrown v_mrF) (fun u9 t9 => atW D (TYS cI cB) A9 (wX12_put cI cB a_mo a_mem a_mks a_mr a_cnt a_wd a_one a_two a_mmade a_mrest a_old u9.1 v_mask v_key v_wait v_problem v_code v_length v_cond v_masks v_addr v_mwanted v_wrong v_after v_calls v_oneB v_twoB u9.2) t9) A9
set_option maxHeartbeats 4000000 in
set_option maxRecDepth 100000 in
theorem kX12_put (l : Launch) (D : va_G) (cI cB : ClassId) (a_mo a_mem a_mks a_mr a_cnt a_wd a_one a_two a_mmade a_mrest a_old : Nat) (sz : Nat) (v_thrown : Int32) (v_mask : Int32) (v_key : Int32) (v_wait : Int32) (v_problem : Int32) (v_code : Int32) (v_length : Int32) (v_cond : Int32) (v_masks : Int32) (v_addr : Int32) (v_mwanted : Int32) (v_wrong : Int32) (v_after : Int32) (v_calls : Int32) (v_oneB : Int32) (v_twoB : Int32) (v_mrF : (Nat → Int32)) (x0 : Int32) (x1 : Int32) : MetW l yX12_put (WK yX12_put cX12_put 3 none) rmX12_put D (TYS cI cB) (wX12_put cI cB a_mo a_mem a_mks a_mr a_cnt a_wd a_one a_two a_mmade a_mrest a_old v_thrown v_mask v_key v_wait v_problem v_code v_length v_cond v_masks v_addr v_mwanted v_wrong v_after v_calls v_oneB v_twoB v_mrF) sz [.ref a_mo, .int x0, .int x1] (qX12_put D cI cB a_mo a_mem a_mks a_mr a_cnt a_wd a_one a_two a_mmade a_mrest a_old v_thrown v_mask v_key v_wait v_problem v_code v_length v_cond v_masks v_addr v_mwanted v_wrong v_after v_calls v_oneB v_twoB v_mrF x0 x1) 0 0 := by
  refine met_std (by decide) rfl (Nat.le_of_ble_eq_true rfl) ?_
  intro p e s m below meth c A ls H hx hb hr hml hown hts hlocks hA hP hK hD hS hNW hl
  have hl : lv_has ls 3 [(0, .ref a_mo), (1, .int x0), (2, .int x1)] := hl
  have q_0 := hts _ (List.mem_cons_of_mem _ wd_788)
  have q_1 := hts _ (List.mem_cons_of_mem _ wd_779)
  refine lv_aload_n hx hb dX12_put_0 rfl (lv_at hl 0 rfl) ?_
  refine lv_iload_n hx hb dX12_put_1 rfl (lv_at hl 1 rfl) ?_
  have J_16 : ∀ (m_16 : Int32), m_16 = (if x0 < 0 then (1) else (if x0 ≤ 15 then (0) else (1))) → ∀ (H : Heap) (locs : List Loc), va_P D vwCl (wX12_put cI cB a_mo a_mem a_mks a_mr a_cnt a_wd a_one a_two a_mmade a_mrest a_old v_thrown v_mask v_key v_wait v_problem v_code v_length v_cond v_masks v_addr v_mwanted v_wrong v_after v_calls v_oneB v_twoB v_mrF) H → va_D A (wX12_put cI cB a_mo a_mem a_mks a_mr a_cnt a_wd a_one a_two a_mmade a_mrest a_old v_thrown v_mask v_key v_wait v_problem v_code v_length v_cond v_masks v_addr v_mwanted v_wrong v_after v_calls v_oneB v_twoB v_mrF) → va_S A s.heap H locs → ∀ (ls : Array Slot), lv_has ls 3 [(0, .ref a_mo), (1, .int x0), (2, .int x1)] → W p l e rmX12_put s m ([.ref a_mo, .int x0, .int x1] : List Value).toArray below meth c H locs 0 0 (MQ below (qX12_put D cI cB a_mo a_mem a_mks a_mr a_cnt a_wd a_one a_two a_mmade a_mrest a_old v_thrown v_mask v_key v_wait v_problem v_code v_length v_cond v_masks v_addr v_mwanted v_wrong v_after v_calls v_oneB v_twoB v_mrF x0 x1 A) ([.ref a_mo, .int x0, .int x1] : List Value).toArray s 0 0 A) (F0 m 16 ls [.int m_16, .ref a_mo]) := by
    intro m_16 em_16 H locs hP hD hS ls hl
    try dsimp only at em_16
    have zm_16_0 : m_16 = 0 ∨ m_16 = 1 := by rw [em_16]; (try dsimp only); (repeat' split) <;> first | exact Or.inl rfl | exact Or.inr rfl
    refine va_put (D := D) (ci := 12) (v := .int m_16) (ty := .int) (C := RX12) (T := TX12) (N := 26) hx hb hts in_X12 tyX12 tyX12_ok nmX12 hown hK hP hD hS 0 rfl rfl 0 (by decide) q_0 (fun _ h9 => h9) rfl (by decide +kernel) rfl rfl (Nat.le_of_ble_eq_true rfl) dX12_put_16 (fun H locs hP hD hS => ?_)
    have hP : va_P D vwCl (wX12_put cI cB a_mo a_mem a_mks a_mr a_cnt a_wd a_one a_two a_mmade a_mrest a_old m_16 v_mask v_key v_wait v_problem v_code v_length v_cond v_masks v_addr v_mwanted v_wrong v_after v_calls v_oneB v_twoB v_mrF) H := hP
    have hD : va_D A (wX12_put cI cB a_mo a_mem a_mks a_mr a_cnt a_wd a_one a_two a_mmade a_mrest a_old m_16 v_mask v_key v_wait v_problem v_code v_length v_cond v_masks v_addr v_mwanted v_wrong v_after v_calls v_oneB v_twoB v_mrF) := hD
    refine lv_aload_n hx hb dX12_put_19 rfl (lv_at hl 0 rfl) ?_
    refine va_get (D := D) (ci := 12) (v := .int m_16) (C := RX12) (T := TX12) (N := 26) hx hb hts in_X12 hown hK hP 0 rfl rfl 0 (by decide) q_0 (fun _ h9 => h9) rfl dX12_put_20 ?_
    refine lv_if_ne (tgt := 33) hx hb dX12_put_23 (by decide) (fun c_23 => ?_) (fun c_23 => ?_)
    · skip
      have hf9 : (m_16, v_mrF) = fX12_put x0 x1 v_thrown v_mrF := by simp only [fX12_put, ← em_16]; (try simp only [if_neg c_23])
      exact W.vret hx hb hr (fun t9 ht9 hW9 => ⟨⟨(m_16, v_mrF), rfl, hf9, ⟨by rw [ht9]; exact hP, va_K.moved hW9.alike hK, hD⟩⟩, hS.F ht9⟩) hS.2.2 dX12_put_33
    · skip
      refine lv_aload_n hx hb dX12_put_26 rfl (lv_at hl 0 rfl) ?_
      refine va_get (D := D) (ci := 12) (v := .ref a_mr) (C := RX12) (T := TX12) (N := 26) hx hb hts in_X12 hown hK hP 0 rfl rfl 3 (by decide) q_1 (fun _ h9 => h9) rfl dX12_put_27 ?_
      refine lv_iload_n hx hb dX12_put_30 rfl (lv_at hl 1 rfl) ?_
      refine lv_iload_n hx hb dX12_put_31 rfl (lv_at hl 2 rfl) ?_
      refine va_iast hx hb hK hP hD hS 1 0 rfl rfl (rg_in0 (B := 15) (by decide) em_16 c_23) dX12_put_32 (fun H locs hP hD hS => ?_)
      obtain ⟨f_32, ef_32⟩ : ∃ z : Nat → Int32, z = upd v_mrF (x0 : Int32).toNatClampNeg (x1) := ⟨_, rfl⟩
      have hP : va_P D vwCl (wX12_put cI cB a_mo a_mem a_mks a_mr a_cnt a_wd a_one a_two a_mmade a_mrest a_old m_16 v_mask v_key v_wait v_problem v_code v_length v_cond v_masks v_addr v_mwanted v_wrong v_after v_calls v_oneB v_twoB (upd v_mrF (x0 : Int32).toNatClampNeg (x1))) H := hP
      have hD : va_D A (wX12_put cI cB a_mo a_mem a_mks a_mr a_cnt a_wd a_one a_two a_mmade a_mrest a_old m_16 v_mask v_key v_wait v_problem v_code v_length v_cond v_masks v_addr v_mwanted v_wrong v_after v_calls v_oneB v_twoB (upd v_mrF (x0 : Int32).toNatClampNeg (x1))) := hD
      rw [← ef_32] at hP hD
      have hf9 : (m_16, f_32) = fX12_put x0 x1 v_thrown v_mrF := by subst ef_32; simp only [fX12_put, ← em_16]; (try simp only [if_pos c_23])
      exact W.vret hx hb hr (fun t9 ht9 hW9 => ⟨⟨(m_16, f_32), rfl, hf9, ⟨by rw [ht9]; exact hP, va_K.moved hW9.alike hK, hD⟩⟩, hS.F ht9⟩) hS.2.2 dX12_put_33
  refine lv_if_lt (tgt := 11) hx hb dX12_put_2 (by decide) (fun c_2 => ?_) (fun c_2 => ?_)
  · skip
    refine lv_iconst (v := 1) hx hb dX12_put_11 (by decide) ?_
    refine lv_goto (tgt := 16) hx hb dX12_put_12 (by decide) ?_
    exact J_16 1 (by (try simp only [if_pos c_2])) _ _ hP hD hS ls (lv_sub hl [0, 1, 2] rfl)
  · skip
    refine lv_iload_n hx hb dX12_put_5 rfl (lv_at hl 1 rfl) ?_
    refine lv_bipush (v := 15) hx hb dX12_put_6 (by decide) ?_
    refine lv_icmp_le (tgt := 15) hx hb dX12_put_8 (by decide) (fun c_8 => ?_) (fun c_8 => ?_)
    · skip
      refine lv_iconst (v := 0) hx hb dX12_put_15 (by decide) ?_
      exact J_16 0 (by (try simp only [if_neg c_2, if_pos c_8])) _ _ hP hD hS ls (lv_sub hl [0, 1, 2] rfl)
    · skip
      refine lv_iconst (v := 1) hx hb dX12_put_11 (by decide) ?_
      refine lv_goto (tgt := 16) hx hb dX12_put_12 (by decide) ?_
      exact J_16 1 (by (try simp only [if_neg c_2, if_neg c_8])) _ _ hP hD hS ls (lv_sub hl [0, 1, 2] rfl)
theorem hdX12_put : yX12_put.cls = RX12 ∧ yX12_put.cls ≠ "java/lang/invoke/MethodHandle" ∧ yX12_put.cls ≠ "java/lang/invoke/VarHandle" ∧ (parseMethodDescriptor yX12_put.desc).map (fun d => d.parameters.length) = some 2 := by decide +kernel
noncomputable def fX12_low (v_length : Int32) (v_cond : Int32) (v_masks : Int32) (v_addr : Int32) : Int32 :=
  ((((v_length <<< (30 &&& 31)) ||| (v_cond <<< (28 &&& 31))) ||| (v_masks <<< (24 &&& 31))) ||| v_addr)
abbrev wX12_low (cI cB : ClassId) (a_mo a_mem a_mks a_mr a_cnt a_wd a_one a_two a_mmade a_mrest a_old : Nat) (v_thrown : Int32) (v_mask : Int32) (v_key : Int32) (v_wait : Int32) (v_problem : Int32) (v_code : Int32) (v_length : Int32) (v_cond : Int32) (v_masks : Int32) (v_addr : Int32) (v_mwanted : Int32) (v_wrong : Int32) (v_after : Int32) (v_calls : Int32) (v_oneB : Int32) (v_twoB : Int32) : va_W := [(a_mo, .inr (12, [.int v_thrown, .ref a_mem, .ref a_mks, .ref a_mr, .int v_mask, .int v_key, .int v_wait, .int v_problem, .int v_code, .int v_length, .int v_cond, .int v_masks, .int v_addr, .int v_mwanted, .ref a_cnt, .ref a_wd, .int v_wrong, .int v_after, .int v_calls, .ref a_one, .int v_oneB, .ref a_two, .int v_twoB, .ref a_mmade, .ref a_mrest, .ref a_old]))]
abbrev rmX12_low : Room := { frames := 0, cells := 0, slots := 0, locals := 0 }
abbrev qX12_low (D : va_G) (cI cB : ClassId) (a_mo a_mem a_mks a_mr a_cnt a_wd a_one a_two a_mmade a_mrest a_old : Nat) (v_thrown : Int32) (v_mask : Int32) (v_key : Int32) (v_wait : Int32) (v_problem : Int32) (v_code : Int32) (v_length : Int32) (v_cond : Int32) (v_masks : Int32) (v_addr : Int32) (v_mwanted : Int32) (v_wrong : Int32) (v_after : Int32) (v_calls : Int32) (v_oneB : Int32) (v_twoB : Int32) : (Nat → Prop) → Array Value → State → Outcome → State → Prop := fun A9 => va_Qi (fun (r9 : Int32) (u9 : Unit) => r9 = fX12_low v_length v_cond v_masks v_addr) (fun u9 t9 => atW D (TYS cI cB) A9 (wX12_low cI cB a_mo a_mem a_mks a_mr a_cnt a_wd a_one a_two a_mmade a_mrest a_old v_thrown v_mask v_key v_wait v_problem v_code v_length v_cond v_masks v_addr v_mwanted v_wrong v_after v_calls v_oneB v_twoB) t9) A9
set_option maxHeartbeats 4000000 in
set_option maxRecDepth 100000 in
theorem kX12_low (l : Launch) (D : va_G) (cI cB : ClassId) (a_mo a_mem a_mks a_mr a_cnt a_wd a_one a_two a_mmade a_mrest a_old : Nat) (sz : Nat) (v_thrown : Int32) (v_mask : Int32) (v_key : Int32) (v_wait : Int32) (v_problem : Int32) (v_code : Int32) (v_length : Int32) (v_cond : Int32) (v_masks : Int32) (v_addr : Int32) (v_mwanted : Int32) (v_wrong : Int32) (v_after : Int32) (v_calls : Int32) (v_oneB : Int32) (v_twoB : Int32) : MetW l yX12_low (WK yX12_low cX12_low 1 (some .int)) rmX12_low D (TYS cI cB) (wX12_low cI cB a_mo a_mem a_mks a_mr a_cnt a_wd a_one a_two a_mmade a_mrest a_old v_thrown v_mask v_key v_wait v_problem v_code v_length v_cond v_masks v_addr v_mwanted v_wrong v_after v_calls v_oneB v_twoB) sz [.ref a_mo] (qX12_low D cI cB a_mo a_mem a_mks a_mr a_cnt a_wd a_one a_two a_mmade a_mrest a_old v_thrown v_mask v_key v_wait v_problem v_code v_length v_cond v_masks v_addr v_mwanted v_wrong v_after v_calls v_oneB v_twoB) 0 0 := by
  refine met_std (by decide) rfl (Nat.le_of_ble_eq_true rfl) ?_
  intro p e s m below meth c A ls H hx hb hr hml hown hts hlocks hA hP hK hD hS hNW hl
  have hl : lv_has ls 1 [(0, .ref a_mo)] := hl
  have q_0 := hts _ (List.mem_cons_of_mem _ wd_791)
  have q_1 := hts _ (List.mem_cons_of_mem _ wd_792)
  have q_2 := hts _ (List.mem_cons_of_mem _ wd_793)
  have q_3 := hts _ (List.mem_cons_of_mem _ wd_794)
  refine lv_aload_n hx hb dX12_low_0 rfl (lv_at hl 0 rfl) ?_
  refine va_get (D := D) (ci := 12) (v := .int v_length) (C := RX12) (T := TX12) (N := 26) hx hb hts in_X12 hown hK hP 0 rfl rfl 9 (by decide) q_0 (fun _ h9 => h9) rfl dX12_low_1 ?_
  refine lv_bipush (v := 30) hx hb dX12_low_4 (by decide) ?_
  refine lv_ishl hx hb dX12_low_6 ?_
  refine lv_aload_n hx hb dX12_low_7 rfl (lv_at hl 0 rfl) ?_
  refine va_get (D := D) (ci := 12) (v := .int v_cond) (C := RX12) (T := TX12) (N := 26) hx hb hts in_X12 hown hK hP 0 rfl rfl 10 (by decide) q_1 (fun _ h9 => h9) rfl dX12_low_8 ?_
  refine lv_bipush (v := 28) hx hb dX12_low_11 (by decide) ?_
  refine lv_ishl hx hb dX12_low_13 ?_
  refine lv_ior hx hb dX12_low_14 ?_
  refine lv_aload_n hx hb dX12_low_15 rfl (lv_at hl 0 rfl) ?_
  refine va_get (D := D) (ci := 12) (v := .int v_masks) (C := RX12) (T := TX12) (N := 26) hx hb hts in_X12 hown hK hP 0 rfl rfl 11 (by decide) q_2 (fun _ h9 => h9) rfl dX12_low_16 ?_
  refine lv_bipush (v := 24) hx hb dX12_low_19 (by decide) ?_
  refine lv_ishl hx hb dX12_low_21 ?_
  refine lv_ior hx hb dX12_low_22 ?_
  refine lv_aload_n hx hb dX12_low_23 rfl (lv_at hl 0 rfl) ?_
  refine va_get (D := D) (ci := 12) (v := .int v_addr) (C := RX12) (T := TX12) (N := 26) hx hb hts in_X12 hown hK hP 0 rfl rfl 12 (by decide) q_3 (fun _ h9 => h9) rfl dX12_low_24 ?_
  refine lv_ior hx hb dX12_low_27 ?_
  have hf9 : ((((v_length <<< (30 &&& 31)) ||| (v_cond <<< (28 &&& 31))) ||| (v_masks <<< (24 &&& 31))) ||| v_addr) = fX12_low v_length v_cond v_masks v_addr := by simp only [fX12_low]
  exact W.iret hx hb hr (fun t9 ht9 hW9 => ⟨⟨((((v_length <<< (30 &&& 31)) ||| (v_cond <<< (28 &&& 31))) ||| (v_masks <<< (24 &&& 31))) ||| v_addr), (), rfl, hf9, ⟨by rw [ht9]; exact hP, va_K.moved hW9.alike hK, hD⟩⟩, hS.F ht9⟩) hS.2.2 dX12_low_28
theorem hdX12_low : yX12_low.cls = RX12 ∧ yX12_low.cls ≠ "java/lang/invoke/MethodHandle" ∧ yX12_low.cls ≠ "java/lang/invoke/VarHandle" ∧ (parseMethodDescriptor yX12_low.desc).map (fun d => d.parameters.length) = some 0 := by decide +kernel
noncomputable def fX12_whole (v_mask : Int32) (v_key : Int32) (v_wait : Int32) (v_problem : Int32) (v_code : Int32) (v_length : Int32) (v_cond : Int32) (v_masks : Int32) (v_addr : Int32) : Int64 :=
  let m_28 : Int32 := (if v_wait = 0 then (0) else (131072))
  let m_42 : Int32 := (if v_problem = 0 then (0) else (65536))
  let x_48 := (((((v_mask <<< (24 &&& 31)) ||| (v_key <<< (20 &&& 31))) ||| m_28) ||| m_42) ||| v_code)
  let r_55 := fX12_low v_length v_cond v_masks v_addr
  (((x_48 : Int32).toInt64 <<< ((32 : Int32).toInt64 &&& 63)) ||| ((r_55 : Int32).toInt64 &&& 4294967295))
abbrev wX12_whole (cI cB : ClassId) (a_mo a_mem a_mks a_mr a_cnt a_wd a_one a_two a_mmade a_mrest a_old : Nat) (v_thrown : Int32) (v_mask : Int32) (v_key : Int32) (v_wait : Int32) (v_problem : Int32) (v_code : Int32) (v_length : Int32) (v_cond : Int32) (v_masks : Int32) (v_addr : Int32) (v_mwanted : Int32) (v_wrong : Int32) (v_after : Int32) (v_calls : Int32) (v_oneB : Int32) (v_twoB : Int32) : va_W := [(a_mo, .inr (12, [.int v_thrown, .ref a_mem, .ref a_mks, .ref a_mr, .int v_mask, .int v_key, .int v_wait, .int v_problem, .int v_code, .int v_length, .int v_cond, .int v_masks, .int v_addr, .int v_mwanted, .ref a_cnt, .ref a_wd, .int v_wrong, .int v_after, .int v_calls, .ref a_one, .int v_oneB, .ref a_two, .int v_twoB, .ref a_mmade, .ref a_mrest, .ref a_old]))]
abbrev rmX12_whole : Room := { frames := 1, cells := 0, slots := 0, locals := 20 }
abbrev qX12_whole (D : va_G) (cI cB : ClassId) (a_mo a_mem a_mks a_mr a_cnt a_wd a_one a_two a_mmade a_mrest a_old : Nat) (v_thrown : Int32) (v_mask : Int32) (v_key : Int32) (v_wait : Int32) (v_problem : Int32) (v_code : Int32) (v_length : Int32) (v_cond : Int32) (v_masks : Int32) (v_addr : Int32) (v_mwanted : Int32) (v_wrong : Int32) (v_after : Int32) (v_calls : Int32) (v_oneB : Int32) (v_twoB : Int32) : (Nat → Prop) → Array Value → State → Outcome → State → Prop := fun A9 => va_Ql (fun (r9 : Int64) (u9 : Unit) => r9 = fX12_whole v_mask v_key v_wait v_problem v_code v_length v_cond v_masks v_addr) (fun u9 t9 => atW D (TYS cI cB) A9 (wX12_whole cI cB a_mo a_mem a_mks a_mr a_cnt a_wd a_one a_two a_mmade a_mrest a_old v_thrown v_mask v_key v_wait v_problem v_code v_length v_cond v_masks v_addr v_mwanted v_wrong v_after v_calls v_oneB v_twoB) t9) A9
set_option maxHeartbeats 4000000 in
set_option maxRecDepth 100000 in
theorem kX12_whole (l : Launch) (D : va_G) (cI cB : ClassId) (a_mo a_mem a_mks a_mr a_cnt a_wd a_one a_two a_mmade a_mrest a_old : Nat) (sz : Nat) (v_thrown : Int32) (v_mask : Int32) (v_key : Int32) (v_wait : Int32) (v_problem : Int32) (v_code : Int32) (v_length : Int32) (v_cond : Int32) (v_masks : Int32) (v_addr : Int32) (v_mwanted : Int32) (v_wrong : Int32) (v_after : Int32) (v_calls : Int32) (v_oneB : Int32) (v_twoB : Int32) : MetW l yX12_whole (WK yX12_whole cX12_whole 2 (some .long)) rmX12_whole D (TYS cI cB) (wX12_whole cI cB a_mo a_mem a_mks a_mr a_cnt a_wd a_one a_two a_mmade a_mrest a_old v_thrown v_mask v_key v_wait v_problem v_code v_length v_cond v_masks v_addr v_mwanted v_wrong v_after v_calls v_oneB v_twoB) sz [.ref a_mo] (qX12_whole D cI cB a_mo a_mem a_mks a_mr a_cnt a_wd a_one a_two a_mmade a_mrest a_old v_thrown v_mask v_key v_wait v_problem v_code v_length v_cond v_masks v_addr v_mwanted v_wrong v_after v_calls v_oneB v_twoB) 0 0 := by
  refine met_std (by decide) rfl (Nat.le_of_ble_eq_true rfl) ?_
  intro p e s m below meth c A ls H hx hb hr hml hown hts hlocks hA hP hK hD hS hNW hl
  have hl : lv_has ls 2 [(0, .ref a_mo)] := hl
  have q_0 := hts _ (List.mem_cons_of_mem _ wd_796)
  have q_1 := hts _ (List.mem_cons_of_mem _ wd_797)
  have q_2 := hts _ (List.mem_cons_of_mem _ wd_798)
  have q_3 := hts _ (List.mem_cons_of_mem _ wd_799)
  have q_4 := hts _ (List.mem_cons_of_mem _ wd_800)
  have q_5 := hts _ (List.mem_cons_of_mem _ wd_801)
  have q_6 := hts _ (List.mem_cons_of_mem _ wd_802)
  have q_7 := hts _ (List.mem_cons_of_mem _ wd_803)
  refine lv_aload_n hx hb dX12_whole_0 rfl (lv_at hl 0 rfl) ?_
  refine va_get (D := D) (ci := 12) (v := .int v_mask) (C := RX12) (T := TX12) (N := 26) hx hb hts in_X12 hown hK hP 0 rfl rfl 4 (by decide) q_0 (fun _ h9 => h9) rfl dX12_whole_1 ?_
  refine lv_bipush (v := 24) hx hb dX12_whole_4 (by decide) ?_
  refine lv_ishl hx hb dX12_whole_6 ?_
  refine lv_aload_n hx hb dX12_whole_7 rfl (lv_at hl 0 rfl) ?_
  refine va_get (D := D) (ci := 12) (v := .int v_key) (C := RX12) (T := TX12) (N := 26) hx hb hts in_X12 hown hK hP 0 rfl rfl 5 (by decide) q_1 (fun _ h9 => h9) rfl dX12_whole_8 ?_
  refine lv_bipush (v := 20) hx hb dX12_whole_11 (by decide) ?_
  refine lv_ishl hx hb dX12_whole_13 ?_
  refine lv_ior hx hb dX12_whole_14 ?_
  refine lv_aload_n hx hb dX12_whole_15 rfl (lv_at hl 0 rfl) ?_
  refine va_get (D := D) (ci := 12) (v := .int v_wait) (C := RX12) (T := TX12) (N := 26) hx hb hts in_X12 hown hK hP 0 rfl rfl 6 (by decide) q_2 (fun _ h9 => h9) rfl dX12_whole_16 ?_
  have J_28 : ∀ (m_28 : Int32), m_28 = (if v_wait = 0 then (0) else (131072)) → ∀ (H : Heap) (locs : List Loc), va_P D vwCl (wX12_whole cI cB a_mo a_mem a_mks a_mr a_cnt a_wd a_one a_two a_mmade a_mrest a_old v_thrown v_mask v_key v_wait v_problem v_code v_length v_cond v_masks v_addr v_mwanted v_wrong v_after v_calls v_oneB v_twoB) H → va_D A (wX12_whole cI cB a_mo a_mem a_mks a_mr a_cnt a_wd a_one a_two a_mmade a_mrest a_old v_thrown v_mask v_key v_wait v_problem v_code v_length v_cond v_masks v_addr v_mwanted v_wrong v_after v_calls v_oneB v_twoB) → va_S A s.heap H locs → ∀ (ls : Array Slot), lv_has ls 2 [(0, .ref a_mo)] → W p l e rmX12_whole s m ([.ref a_mo] : List Value).toArray below meth c H locs 0 0 (MQ below (qX12_whole D cI cB a_mo a_mem a_mks a_mr a_cnt a_wd a_one a_two a_mmade a_mrest a_old v_thrown v_mask v_key v_wait v_problem v_code v_length v_cond v_masks v_addr v_mwanted v_wrong v_after v_calls v_oneB v_twoB A) ([.ref a_mo] : List Value).toArray s 0 0 A) (F0 m 28 ls [.int m_28, .int (((v_mask <<< (24 &&& 31)) ||| (v_key <<< (20 &&& 31))))]) := by
    intro m_28 em_28 H locs hP hD hS ls hl
    try dsimp only at em_28
    refine lv_ior hx hb dX12_whole_28 ?_
    refine lv_aload_n hx hb dX12_whole_29 rfl (lv_at hl 0 rfl) ?_
    refine va_get (D := D) (ci := 12) (v := .int v_problem) (C := RX12) (T := TX12) (N := 26) hx hb hts in_X12 hown hK hP 0 rfl rfl 7 (by decide) q_4 (fun _ h9 => h9) rfl dX12_whole_30 ?_
    have J_42 : ∀ (m_42 : Int32), m_42 = (if v_problem = 0 then (0) else (65536)) → ∀ (H : Heap) (locs : List Loc), va_P D vwCl (wX12_whole cI cB a_mo a_mem a_mks a_mr a_cnt a_wd a_one a_two a_mmade a_mrest a_old v_thrown v_mask v_key v_wait v_problem v_code v_length v_cond v_masks v_addr v_mwanted v_wrong v_after v_calls v_oneB v_twoB) H → va_D A (wX12_whole cI cB a_mo a_mem a_mks a_mr a_cnt a_wd a_one a_two a_mmade a_mrest a_old v_thrown v_mask v_key v_wait v_problem v_code v_length v_cond v_masks v_addr v_mwanted v_wrong v_after v_calls v_oneB v_twoB) → va_S A s.heap H locs → ∀ (ls : Array Slot), lv_has ls 2 [(0, .ref a_mo)] → W p l e rmX12_whole s m ([.ref a_mo] : List Value).toArray below meth c H locs 0 0 (MQ below (qX12_whole D cI cB a_mo a_mem a_mks a_mr a_cnt a_wd a_one a_two a_mmade a_mrest a_old v_thrown v_mask v_key v_wait v_problem v_code v_length v_cond v_masks v_addr v_mwanted v_wrong v_after v_calls v_oneB v_twoB A) ([.ref a_mo] : List Value).toArray s 0 0 A) (F0 m 42 ls [.int m_42, .int ((((v_mask <<< (24 &&& 31)) ||| (v_key <<< (20 &&& 31))) ||| m_28))]) := by
      intro m_42 em_42 H locs hP hD hS ls hl
      try dsimp only at em_42
      refine lv_ior hx hb dX12_whole_42 ?_
      refine lv_aload_n hx hb dX12_whole_43 rfl (lv_at hl 0 rfl) ?_
      refine va_get (D := D) (ci := 12) (v := .int v_code) (C := RX12) (T := TX12) (N := 26) hx hb hts in_X12 hown hK hP 0 rfl rfl 8 (by decide) q_6 (fun _ h9 => h9) rfl dX12_whole_44 ?_
      refine lv_ior hx hb dX12_whole_47 ?_
      refine lv_topi (fun x_48 ex_48 => ?_)
      refine lv_istore_n (lv' := [(1, .int x_48), (0, .ref a_mo)]) hx hb dX12_whole_48 rfl hl (by decide) rfl (fun ls hl => ?_)
      refine lv_iload_n hx hb dX12_whole_49 rfl (lv_at hl 0 rfl) ?_
      refine lv_i2l hx hb dX12_whole_50 rfl ?_
      refine lv_bipush (v := 32) hx hb dX12_whole_51 (by decide) ?_
      refine lv_lshl hx hb dX12_whole_53 rfl ?_
      refine lv_aload_n hx hb dX12_whole_54 rfl (lv_at hl 1 rfl) ?_
      have hPc : va_P D vwCl (wX12_low cI cB a_mo a_mem a_mks a_mr a_cnt a_wd a_one a_two a_mmade a_mrest a_old v_thrown v_mask v_key v_wait v_problem v_code v_length v_cond v_masks v_addr v_mwanted v_wrong v_after v_calls v_oneB v_twoB) H := hP.sub [0] rfl
      have hDc : va_D A (wX12_low cI cB a_mo a_mem a_mks a_mr a_cnt a_wd a_one a_two a_mmade a_mrest a_old v_thrown v_mask v_key v_wait v_problem v_code v_length v_cond v_masks v_addr v_mwanted v_wrong v_after v_calls v_oneB v_twoB) := hD.sub [0] (by decide) rfl
      have hFc := va_free (wc := (wX12_low cI cB a_mo a_mem a_mks a_mr a_cnt a_wd a_one a_two a_mmade a_mrest a_old v_thrown v_mask v_key v_wait v_problem v_code v_length v_cond v_masks v_addr v_mwanted v_wrong v_after v_calls v_oneB v_twoB)) hD hS hA [0] rfl
      refine va_calli (va_runV (As := []) (rest := [.long (((x_48 : Int32).toInt64 <<< ((32 : Int32).toInt64 &&& 63)))]) ⟨hx, hb, hml, hown, hts⟩ (kX12_low l D cI cB a_mo a_mem a_mks a_mr a_cnt a_wd a_one a_two a_mmade a_mrest a_old H.size v_thrown v_mask v_key v_wait v_problem v_code v_length v_cond v_masks v_addr v_mwanted v_wrong v_after v_calls v_oneB v_twoB ) (cwV 0 hts (gd_V wd_804 wd_805 wd_806 wd_807 wd_790) rfl rfl rfl hdX12_low ⟨Nat.le_of_ble_eq_true rfl, Nat.le_of_ble_eq_true rfl⟩) (preV_std (ci := 12) (q0 := 0) hPc hK hDc hNW rfl rfl) rfl rfl hl.1 rfl (lv_room (Nat.le_of_ble_eq_true rfl)) dX12_whole_55 ⟨Nat.zero_le _, Nat.zero_le _⟩) hS (fun q _ h => hFc q h) hFc (fun r_55 u_55 t9 H1 locs ht9 hvm9 hw9 hB9 hz9 hk9 hS => ?_)
      have er_55 : r_55 = fX12_low v_length v_cond v_masks v_addr := hw9
      obtain ⟨hP, hD⟩ := back_std (w1 := (wX12_low cI cB a_mo a_mem a_mks a_mr a_cnt a_wd a_one a_two a_mmade a_mrest a_old v_thrown v_mask v_key v_wait v_problem v_code v_length v_cond v_masks v_addr v_mwanted v_wrong v_after v_calls v_oneB v_twoB)) (w2 := (wX12_whole cI cB a_mo a_mem a_mks a_mr a_cnt a_wd a_one a_two a_mmade a_mrest a_old v_thrown v_mask v_key v_wait v_problem v_code v_length v_cond v_masks v_addr v_mwanted v_wrong v_after v_calls v_oneB v_twoB)) (wr := []) hP hD [0] [] [0] rfl rfl (by decide) (by decide) hk9 hFc hB9 ht9 (by decide) rfl
      clear hB9 hk9 hz9 hvm9 ht9 hFc hPc hDc
      generalize H1 = H at hP hS ⊢
      refine lv_i2l hx hb dX12_whole_58 rfl ?_
      refine lv_ldc2 (v := 4294967295) hx hb hown q_7 dX12_whole_59 ?_
      refine lv_land hx hb dX12_whole_62 ?_
      refine lv_lor hx hb dX12_whole_63 ?_
      have hf9 : (((x_48 : Int32).toInt64 <<< ((32 : Int32).toInt64 &&& 63)) ||| ((r_55 : Int32).toInt64 &&& 4294967295)) = fX12_whole v_mask v_key v_wait v_problem v_code v_length v_cond v_masks v_addr := by subst ex_48; simp only [fX12_whole, ← em_28, ← em_42, ← er_55]
      exact W.lret hx hb hr (fun t9 ht9 hW9 => ⟨⟨(((x_48 : Int32).toInt64 <<< ((32 : Int32).toInt64 &&& 63)) ||| ((r_55 : Int32).toInt64 &&& 4294967295)), (), rfl, hf9, ⟨by rw [ht9]; exact hP, va_K.moved hW9.alike hK, hD⟩⟩, hS.F ht9⟩) hS.2.2 dX12_whole_64
    refine lv_if_eq (tgt := 41) hx hb dX12_whole_33 (by decide) (fun c_33 => ?_) (fun c_33 => ?_)
    · skip
      refine lv_iconst (v := 0) hx hb dX12_whole_41 (by decide) ?_
      exact J_42 0 (by (try simp only [if_pos c_33])) _ _ hP hD hS ls (lv_sub hl [0] rfl)
    · skip
      refine lv_ldc (v := 65536) hx hb hown q_5 dX12_whole_36 ?_
      refine lv_goto (tgt := 42) hx hb dX12_whole_38 (by decide) ?_
      exact J_42 65536 (by (try simp only [if_neg c_33])) _ _ hP hD hS ls (lv_sub hl [0] rfl)
  refine lv_if_eq (tgt := 27) hx hb dX12_whole_19 (by decide) (fun c_19 => ?_) (fun c_19 => ?_)
  · skip
    refine lv_iconst (v := 0) hx hb dX12_whole_27 (by decide) ?_
    exact J_28 0 (by (try simp only [if_pos c_19])) _ _ hP hD hS ls (lv_sub hl [0] rfl)
  · skip
    refine lv_ldc (v := 131072) hx hb hown q_3 dX12_whole_22 ?_
    refine lv_goto (tgt := 28) hx hb dX12_whole_24 (by decide) ?_
    exact J_28 131072 (by (try simp only [if_neg c_19])) _ _ hP hD hS ls (lv_sub hl [0] rfl)
theorem hdX12_whole : yX12_whole.cls = RX12 ∧ yX12_whole.cls ≠ "java/lang/invoke/MethodHandle" ∧ yX12_whole.cls ≠ "java/lang/invoke/VarHandle" ∧ (parseMethodDescriptor yX12_whole.desc).map (fun d => d.parameters.length) = some 0 := by decide +kernel
noncomputable def fX12_become (x0 : Int64) (v_mask : Int32) (v_key : Int32) (v_wait : Int32) (v_problem : Int32) (v_code : Int32) (v_length : Int32) (v_cond : Int32) (v_masks : Int32) (v_addr : Int32) : (Int32 × Int32 × Int32 × Int32 × Int32 × Int32 × Int32 × Int32 × Int32) :=
  let x_5 := (((x0 : Int64).toUInt64 >>> ((32 : Int32).toInt64.toUInt64 &&& Int64.toUInt64 63)).toInt64 : Int64).toInt32
  let x_8 := (x0 : Int64).toInt32
  let x_15 := ((x_5).toUInt32 >>> ((24 : Int32).toUInt32 &&& Int32.toUInt32 31)).toInt32
  let x_26 := ((x_5 >>> (20 &&& 31)) &&& 15)
  let m_42 : Int32 := (if (x_5 &&& 131072) = 0 then (0) else (1))
  let m_58 : Int32 := (if (x_5 &&& 65536) = 0 then (0) else (1))
  let x_66 := (x_5 &&& 65535)
  let x_75 := ((x_8).toUInt32 >>> ((30 : Int32).toUInt32 &&& Int32.toUInt32 31)).toInt32
  let x_86 := ((x_8 >>> (28 &&& 31)) &&& 3)
  let x_98 := ((x_8 >>> (24 &&& 31)) &&& 15)
  let x_107 := (x_8 &&& 16777215)
  (x_15, x_26, m_42, m_58, x_66, x_75, x_86, x_98, x_107)
abbrev wX12_become (cI cB : ClassId) (a_mo a_mem a_mks a_mr a_cnt a_wd a_one a_two a_mmade a_mrest a_old : Nat) (v_thrown : Int32) (v_mask : Int32) (v_key : Int32) (v_wait : Int32) (v_problem : Int32) (v_code : Int32) (v_length : Int32) (v_cond : Int32) (v_masks : Int32) (v_addr : Int32) (v_mwanted : Int32) (v_wrong : Int32) (v_after : Int32) (v_calls : Int32) (v_oneB : Int32) (v_twoB : Int32) : va_W := [(a_mo, .inr (12, [.int v_thrown, .ref a_mem, .ref a_mks, .ref a_mr, .int v_mask, .int v_key, .int v_wait, .int v_problem, .int v_code, .int v_length, .int v_cond, .int v_masks, .int v_addr, .int v_mwanted, .ref a_cnt, .ref a_wd, .int v_wrong, .int v_after, .int v_calls, .ref a_one, .int v_oneB, .ref a_two, .int v_twoB, .ref a_mmade, .ref a_mrest, .ref a_old]))]
abbrev rmX12_become : Room := { frames := 0, cells := 0, slots := 0, locals := 0 }
abbrev qX12_become (D : va_G) (cI cB : ClassId) (a_mo a_mem a_mks a_mr a_cnt a_wd a_one a_two a_mmade a_mrest a_old : Nat) (v_thrown : Int32) (v_mask : Int32) (v_key : Int32) (v_wait : Int32) (v_problem : Int32) (v_code : Int32) (v_length : Int32) (v_cond : Int32) (v_masks : Int32) (v_addr : Int32) (v_mwanted : Int32) (v_wrong : Int32) (v_after : Int32) (v_calls : Int32) (v_oneB : Int32) (v_twoB : Int32) (x0 : Int64) : (Nat → Prop) → Array Value → State → Outcome → State → Prop := fun A9 => va_Qv (fun (u9 : (Int32 × Int32 × Int32 × Int32 × Int32 × Int32 × Int32 × Int32 × Int32)) => u9 = fX12_become x0 v_mask v_key v_wait v_problem v_code v_length v_cond v_masks v_addr) (fun u9 t9 => atW D (TYS cI cB) A9 (wX12_become cI cB a_mo a_mem a_mks a_mr a_cnt a_wd a_one a_two a_mmade a_mrest a_old v_thrown u9.1 u9.2.1 u9.2.2.1 u9.2.2.2.1 u9.2.2.2.2.1 u9.2.2.2.2.2.1 u9.2.2.2.2.2.2.1 u9.2.2.2.2.2.2.2.1 u9.2.2.2.2.2.2.2.2 v_mwanted v_wrong v_after v_calls v_oneB v_twoB) t9) A9
set_option maxHeartbeats 4000000 in
set_option maxRecDepth 100000 in
theorem kX12_become (l : Launch) (D : va_G) (cI cB : ClassId) (a_mo a_mem a_mks a_mr a_cnt a_wd a_one a_two a_mmade a_mrest a_old : Nat) (sz : Nat) (v_thrown : Int32) (v_mask : Int32) (v_key : Int32) (v_wait : Int32) (v_problem : Int32) (v_code : Int32) (v_length : Int32) (v_cond : Int32) (v_masks : Int32) (v_addr : Int32) (v_mwanted : Int32) (v_wrong : Int32) (v_after : Int32) (v_calls : Int32) (v_oneB : Int32) (v_twoB : Int32) (x0 : Int64) : MetW l yX12_become (WK yX12_become cX12_become 5 none) rmX12_become D (TYS cI cB) (wX12_become cI cB a_mo a_mem a_mks a_mr a_cnt a_wd a_one a_two a_mmade a_mrest a_old v_thrown v_mask v_key v_wait v_problem v_code v_length v_cond v_masks v_addr v_mwanted v_wrong v_after v_calls v_oneB v_twoB) sz [.ref a_mo, .long x0] (qX12_become D cI cB a_mo a_mem a_mks a_mr a_cnt a_wd a_one a_two a_mmade a_mrest a_old v_thrown v_mask v_key v_wait v_problem v_code v_length v_cond v_masks v_addr v_mwanted v_wrong v_after v_calls v_oneB v_twoB x0) 0 0 := by
  refine met_std (by decide) rfl (Nat.le_of_ble_eq_true rfl) ?_
  intro p e s m below meth c A ls H hx hb hr hml hown hts hlocks hA hP hK hD hS hNW hl
  have hl : lv_has ls 5 [(0, .ref a_mo), (1, .long x0)] := hl
  have q_0 := hts _ (List.mem_cons_of_mem _ wd_796)
  have q_1 := hts _ (List.mem_cons_of_mem _ wd_797)
  have q_2 := hts _ (List.mem_cons_of_mem _ wd_799)
  have q_3 := hts _ (List.mem_cons_of_mem _ wd_798)
  have q_4 := hts _ (List.mem_cons_of_mem _ wd_801)
  have q_5 := hts _ (List.mem_cons_of_mem _ wd_800)
  have q_6 := hts _ (List.mem_cons_of_mem _ wd_809)
  have q_7 := hts _ (List.mem_cons_of_mem _ wd_802)
  have q_8 := hts _ (List.mem_cons_of_mem _ wd_791)
  have q_9 := hts _ (List.mem_cons_of_mem _ wd_792)
  have q_10 := hts _ (List.mem_cons_of_mem _ wd_793)
  have q_11 := hts _ (List.mem_cons_of_mem _ wd_810)
  have q_12 := hts _ (List.mem_cons_of_mem _ wd_794)
  refine lv_lload_n hx hb dX12_become_0 rfl (lv_at hl 1 rfl) ?_
  refine lv_bipush (v := 32) hx hb dX12_become_1 (by decide) ?_
  refine lv_lushr hx hb dX12_become_3 rfl ?_
  refine lv_l2i hx hb dX12_become_4 rfl ?_
  refine lv_topi (fun x_5 ex_5 => ?_)
  refine lv_istore_n (lv' := [(3, .int x_5), (0, .ref a_mo), (1, .long x0)]) hx hb dX12_become_5 rfl hl (by decide) rfl (fun ls hl => ?_)
  refine lv_lload_n hx hb dX12_become_6 rfl (lv_at hl 2 rfl) ?_
  refine lv_l2i hx hb dX12_become_7 rfl ?_
  refine lv_topi (fun x_8 ex_8 => ?_)
  refine lv_istore (lv' := [(4, .int x_8), (3, .int x_5), (0, .ref a_mo), (1, .long x0)]) hx hb dX12_become_8 hl (by decide) rfl (fun ls hl => ?_)
  refine lv_aload_n hx hb dX12_become_10 rfl (lv_at hl 2 rfl) ?_
  refine lv_iload_n hx hb dX12_become_11 rfl (lv_at hl 1 rfl) ?_
  refine lv_bipush (v := 24) hx hb dX12_become_12 (by decide) ?_
  refine lv_iushr hx hb dX12_become_14 rfl ?_
  refine lv_topi (fun x_15 ex_15 => ?_)
  refine va_put (D := D) (ci := 12) (v := .int x_15) (ty := .int) (C := RX12) (T := TX12) (N := 26) hx hb hts in_X12 tyX12 tyX12_ok nmX12 hown hK hP hD hS 0 rfl rfl 4 (by decide) q_0 (fun _ h9 => h9) rfl (by decide +kernel) rfl rfl (Nat.le_of_ble_eq_true rfl) dX12_become_15 (fun H locs hP hD hS => ?_)
  have hP : va_P D vwCl (wX12_become cI cB a_mo a_mem a_mks a_mr a_cnt a_wd a_one a_two a_mmade a_mrest a_old v_thrown x_15 v_key v_wait v_problem v_code v_length v_cond v_masks v_addr v_mwanted v_wrong v_after v_calls v_oneB v_twoB) H := hP
  have hD : va_D A (wX12_become cI cB a_mo a_mem a_mks a_mr a_cnt a_wd a_one a_two a_mmade a_mrest a_old v_thrown x_15 v_key v_wait v_problem v_code v_length v_cond v_masks v_addr v_mwanted v_wrong v_after v_calls v_oneB v_twoB) := hD
  refine lv_aload_n hx hb dX12_become_18 rfl (lv_at hl 2 rfl) ?_
  refine lv_iload_n hx hb dX12_become_19 rfl (lv_at hl 1 rfl) ?_
  refine lv_bipush (v := 20) hx hb dX12_become_20 (by decide) ?_
  refine lv_ishr hx hb dX12_become_22 ?_
  refine lv_bipush (v := 15) hx hb dX12_become_23 (by decide) ?_
  refine lv_iand hx hb dX12_become_25 ?_
  refine lv_topi (fun x_26 ex_26 => ?_)
  refine va_put (D := D) (ci := 12) (v := .int x_26) (ty := .int) (C := RX12) (T := TX12) (N := 26) hx hb hts in_X12 tyX12 tyX12_ok nmX12 hown hK hP hD hS 0 rfl rfl 5 (by decide) q_1 (fun _ h9 => h9) rfl (by decide +kernel) rfl rfl (Nat.le_of_ble_eq_true rfl) dX12_become_26 (fun H locs hP hD hS => ?_)
  have hP : va_P D vwCl (wX12_become cI cB a_mo a_mem a_mks a_mr a_cnt a_wd a_one a_two a_mmade a_mrest a_old v_thrown x_15 x_26 v_wait v_problem v_code v_length v_cond v_masks v_addr v_mwanted v_wrong v_after v_calls v_oneB v_twoB) H := hP
  have hD : va_D A (wX12_become cI cB a_mo a_mem a_mks a_mr a_cnt a_wd a_one a_two a_mmade a_mrest a_old v_thrown x_15 x_26 v_wait v_problem v_code v_length v_cond v_masks v_addr v_mwanted v_wrong v_after v_calls v_oneB v_twoB) := hD
  refine lv_aload_n hx hb dX12_become_29 rfl (lv_at hl 2 rfl) ?_
  refine lv_iload_n hx hb dX12_become_30 rfl (lv_at hl 1 rfl) ?_
  refine lv_ldc (v := 131072) hx hb hown q_2 dX12_become_31 ?_
  refine lv_iand hx hb dX12_become_33 ?_
  have J_42 : ∀ (m_42 : Int32), m_42 = (if (x_5 &&& 131072) = 0 then (0) else (1)) → ∀ (H : Heap) (locs : List Loc), va_P D vwCl (wX12_become cI cB a_mo a_mem a_mks a_mr a_cnt a_wd a_one a_two a_mmade a_mrest a_old v_thrown x_15 x_26 v_wait v_problem v_code v_length v_cond v_masks v_addr v_mwanted v_wrong v_after v_calls v_oneB v_twoB) H → va_D A (wX12_become cI cB a_mo a_mem a_mks a_mr a_cnt a_wd a_one a_two a_mmade a_mrest a_old v_thrown x_15 x_26 v_wait v_problem v_code v_length v_cond v_masks v_addr v_mwanted v_wrong v_after v_calls v_oneB v_twoB) → va_S A s.heap H locs → ∀ (ls : Array Slot), lv_has ls 5 [(0, .ref a_mo), (1, .long x0), (3, .int x_5), (4, .int x_8)] → W p l e rmX12_become s m ([.ref a_mo, .long x0] : List Value).toArray below meth c H locs 0 0 (MQ below (qX12_become D cI cB a_mo a_mem a_mks a_mr a_cnt a_wd a_one a_two a_mmade a_mrest a_old v_thrown v_mask v_key v_wait v_problem v_code v_length v_cond v_masks v_addr v_mwanted v_wrong v_after v_calls v_oneB v_twoB x0 A) ([.ref a_mo, .long x0] : List Value).toArray s 0 0 A) (F0 m 42 ls [.int m_42, .ref a_mo]) := by
    intro m_42 em_42 H locs hP hD hS ls hl
    try dsimp only at em_42
    have zm_42_0 : m_42 = 0 ∨ m_42 = 1 := by rw [em_42]; (try dsimp only); (repeat' split) <;> first | exact Or.inl rfl | exact Or.inr rfl
    refine va_put (D := D) (ci := 12) (v := .int m_42) (ty := .boolean) (C := RX12) (T := TX12) (N := 26) hx hb hts in_X12 tyX12 tyX12_ok nmX12 hown hK hP hD hS 0 rfl rfl 6 (by decide) q_3 (fun _ h9 => h9) rfl (by decide +kernel) (zb_narrow (by with_reducible assumption)) (zb_fits (by with_reducible assumption)) (Nat.le_of_ble_eq_true rfl) dX12_become_42 (fun H locs hP hD hS => ?_)
    have hP : va_P D vwCl (wX12_become cI cB a_mo a_mem a_mks a_mr a_cnt a_wd a_one a_two a_mmade a_mrest a_old v_thrown x_15 x_26 m_42 v_problem v_code v_length v_cond v_masks v_addr v_mwanted v_wrong v_after v_calls v_oneB v_twoB) H := hP
    have hD : va_D A (wX12_become cI cB a_mo a_mem a_mks a_mr a_cnt a_wd a_one a_two a_mmade a_mrest a_old v_thrown x_15 x_26 m_42 v_problem v_code v_length v_cond v_masks v_addr v_mwanted v_wrong v_after v_calls v_oneB v_twoB) := hD
    refine lv_aload_n hx hb dX12_become_45 rfl (lv_at hl 0 rfl) ?_
    refine lv_iload_n hx hb dX12_become_46 rfl (lv_at hl 2 rfl) ?_
    refine lv_ldc (v := 65536) hx hb hown q_4 dX12_become_47 ?_
    refine lv_iand hx hb dX12_become_49 ?_
    have J_58 : ∀ (m_58 : Int32), m_58 = (if (x_5 &&& 65536) = 0 then (0) else (1)) → ∀ (H : Heap) (locs : List Loc), va_P D vwCl (wX12_become cI cB a_mo a_mem a_mks a_mr a_cnt a_wd a_one a_two a_mmade a_mrest a_old v_thrown x_15 x_26 m_42 v_problem v_code v_length v_cond v_masks v_addr v_mwanted v_wrong v_after v_calls v_oneB v_twoB) H → va_D A (wX12_become cI cB a_mo a_mem a_mks a_mr a_cnt a_wd a_one a_two a_mmade a_mrest a_old v_thrown x_15 x_26 m_42 v_problem v_code v_length v_cond v_masks v_addr v_mwanted v_wrong v_after v_calls v_oneB v_twoB) → va_S A s.heap H locs → ∀ (ls : Array Slot), lv_has ls 5 [(0, .ref a_mo), (1, .long x0), (3, .int x_5), (4, .int x_8)] → W p l e rmX12_become s m ([.ref a_mo, .long x0] : List Value).toArray below meth c H locs 0 0 (MQ below (qX12_become D cI cB a_mo a_mem a_mks a_mr a_cnt a_wd a_one a_two a_mmade a_mrest a_old v_thrown v_mask v_key v_wait v_problem v_code v_length v_cond v_masks v_addr v_mwanted v_wrong v_after v_calls v_oneB v_twoB x0 A) ([.ref a_mo, .long x0] : List Value).toArray s 0 0 A) (F0 m 58 ls [.int m_58, .ref a_mo]) := by
      intro m_58 em_58 H locs hP hD hS ls hl
      try dsimp only at em_58
      have zm_58_0 : m_58 = 0 ∨ m_58 = 1 := by rw [em_58]; (try dsimp only); (repeat' split) <;> first | exact Or.inl rfl | exact Or.inr rfl
      refine va_put (D := D) (ci := 12) (v := .int m_58) (ty := .boolean) (C := RX12) (T := TX12) (N := 26) hx hb hts in_X12 tyX12 tyX12_ok nmX12 hown hK hP hD hS 0 rfl rfl 7 (by decide) q_5 (fun _ h9 => h9) rfl (by decide +kernel) (zb_narrow (by with_reducible assumption)) (zb_fits (by with_reducible assumption)) (Nat.le_of_ble_eq_true rfl) dX12_become_58 (fun H locs hP hD hS => ?_)
      have hP : va_P D vwCl (wX12_become cI cB a_mo a_mem a_mks a_mr a_cnt a_wd a_one a_two a_mmade a_mrest a_old v_thrown x_15 x_26 m_42 m_58 v_code v_length v_cond v_masks v_addr v_mwanted v_wrong v_after v_calls v_oneB v_twoB) H := hP
      have hD : va_D A (wX12_become cI cB a_mo a_mem a_mks a_mr a_cnt a_wd a_one a_two a_mmade a_mrest a_old v_thrown x_15 x_26 m_42 m_58 v_code v_length v_cond v_masks v_addr v_mwanted v_wrong v_after v_calls v_oneB v_twoB) := hD
      refine lv_aload_n hx hb dX12_become_61 rfl (lv_at hl 0 rfl) ?_
      refine lv_iload_n hx hb dX12_become_62 rfl (lv_at hl 2 rfl) ?_
      refine lv_ldc (v := 65535) hx hb hown q_6 dX12_become_63 ?_
      refine lv_iand hx hb dX12_become_65 ?_
      refine lv_topi (fun x_66 ex_66 => ?_)
      refine va_put (D := D) (ci := 12) (v := .int x_66) (ty := .int) (C := RX12) (T := TX12) (N := 26) hx hb hts in_X12 tyX12 tyX12_ok nmX12 hown hK hP hD hS 0 rfl rfl 8 (by decide) q_7 (fun _ h9 => h9) rfl (by decide +kernel) rfl rfl (Nat.le_of_ble_eq_true rfl) dX12_become_66 (fun H locs hP hD hS => ?_)
      have hP : va_P D vwCl (wX12_become cI cB a_mo a_mem a_mks a_mr a_cnt a_wd a_one a_two a_mmade a_mrest a_old v_thrown x_15 x_26 m_42 m_58 x_66 v_length v_cond v_masks v_addr v_mwanted v_wrong v_after v_calls v_oneB v_twoB) H := hP
      have hD : va_D A (wX12_become cI cB a_mo a_mem a_mks a_mr a_cnt a_wd a_one a_two a_mmade a_mrest a_old v_thrown x_15 x_26 m_42 m_58 x_66 v_length v_cond v_masks v_addr v_mwanted v_wrong v_after v_calls v_oneB v_twoB) := hD
      refine lv_aload_n hx hb dX12_become_69 rfl (lv_at hl 0 rfl) ?_
      refine lv_iload hx hb dX12_become_70 (lv_at hl 3 rfl) ?_
      refine lv_bipush (v := 30) hx hb dX12_become_72 (by decide) ?_
      refine lv_iushr hx hb dX12_become_74 rfl ?_
      refine lv_topi (fun x_75 ex_75 => ?_)
      refine va_put (D := D) (ci := 12) (v := .int x_75) (ty := .int) (C := RX12) (T := TX12) (N := 26) hx hb hts in_X12 tyX12 tyX12_ok nmX12 hown hK hP hD hS 0 rfl rfl 9 (by decide) q_8 (fun _ h9 => h9) rfl (by decide +kernel) rfl rfl (Nat.le_of_ble_eq_true rfl) dX12_become_75 (fun H locs hP hD hS => ?_)
      have hP : va_P D vwCl (wX12_become cI cB a_mo a_mem a_mks a_mr a_cnt a_wd a_one a_two a_mmade a_mrest a_old v_thrown x_15 x_26 m_42 m_58 x_66 x_75 v_cond v_masks v_addr v_mwanted v_wrong v_after v_calls v_oneB v_twoB) H := hP
      have hD : va_D A (wX12_become cI cB a_mo a_mem a_mks a_mr a_cnt a_wd a_one a_two a_mmade a_mrest a_old v_thrown x_15 x_26 m_42 m_58 x_66 x_75 v_cond v_masks v_addr v_mwanted v_wrong v_after v_calls v_oneB v_twoB) := hD
      refine lv_aload_n hx hb dX12_become_78 rfl (lv_at hl 0 rfl) ?_
      refine lv_iload hx hb dX12_become_79 (lv_at hl 3 rfl) ?_
      refine lv_bipush (v := 28) hx hb dX12_become_81 (by decide) ?_
      refine lv_ishr hx hb dX12_become_83 ?_
      refine lv_iconst (v := 3) hx hb dX12_become_84 (by decide) ?_
      refine lv_iand hx hb dX12_become_85 ?_
      refine lv_topi (fun x_86 ex_86 => ?_)
      refine va_put (D := D) (ci := 12) (v := .int x_86) (ty := .int) (C := RX12) (T := TX12) (N := 26) hx hb hts in_X12 tyX12 tyX12_ok nmX12 hown hK hP hD hS 0 rfl rfl 10 (by decide) q_9 (fun _ h9 => h9) rfl (by decide +kernel) rfl rfl (Nat.le_of_ble_eq_true rfl) dX12_become_86 (fun H locs hP hD hS => ?_)
      have hP : va_P D vwCl (wX12_become cI cB a_mo a_mem a_mks a_mr a_cnt a_wd a_one a_two a_mmade a_mrest a_old v_thrown x_15 x_26 m_42 m_58 x_66 x_75 x_86 v_masks v_addr v_mwanted v_wrong v_after v_calls v_oneB v_twoB) H := hP
      have hD : va_D A (wX12_become cI cB a_mo a_mem a_mks a_mr a_cnt a_wd a_one a_two a_mmade a_mrest a_old v_thrown x_15 x_26 m_42 m_58 x_66 x_75 x_86 v_masks v_addr v_mwanted v_wrong v_after v_calls v_oneB v_twoB) := hD
      refine lv_aload_n hx hb dX12_become_89 rfl (lv_at hl 0 rfl) ?_
      refine lv_iload hx hb dX12_become_90 (lv_at hl 3 rfl) ?_
      refine lv_bipush (v := 24) hx hb dX12_become_92 (by decide) ?_
      refine lv_ishr hx hb dX12_become_94 ?_
      refine lv_bipush (v := 15) hx hb dX12_become_95 (by decide) ?_
      refine lv_iand hx hb dX12_become_97 ?_
      refine lv_topi (fun x_98 ex_98 => ?_)
      refine va_put (D := D) (ci := 12) (v := .int x_98) (ty := .int) (C := RX12) (T := TX12) (N := 26) hx hb hts in_X12 tyX12 tyX12_ok nmX12 hown hK hP hD hS 0 rfl rfl 11 (by decide) q_10 (fun _ h9 => h9) rfl (by decide +kernel) rfl rfl (Nat.le_of_ble_eq_true rfl) dX12_become_98 (fun H locs hP hD hS => ?_)
      have hP : va_P D vwCl (wX12_become cI cB a_mo a_mem a_mks a_mr a_cnt a_wd a_one a_two a_mmade a_mrest a_old v_thrown x_15 x_26 m_42 m_58 x_66 x_75 x_86 x_98 v_addr v_mwanted v_wrong v_after v_calls v_oneB v_twoB) H := hP
      have hD : va_D A (wX12_become cI cB a_mo a_mem a_mks a_mr a_cnt a_wd a_one a_two a_mmade a_mrest a_old v_thrown x_15 x_26 m_42 m_58 x_66 x_75 x_86 x_98 v_addr v_mwanted v_wrong v_after v_calls v_oneB v_twoB) := hD
      refine lv_aload_n hx hb dX12_become_101 rfl (lv_at hl 0 rfl) ?_
      refine lv_iload hx hb dX12_become_102 (lv_at hl 3 rfl) ?_
      refine lv_ldc (v := 16777215) hx hb hown q_11 dX12_become_104 ?_
      refine lv_iand hx hb dX12_become_106 ?_
      refine lv_topi (fun x_107 ex_107 => ?_)
      refine va_put (D := D) (ci := 12) (v := .int x_107) (ty := .int) (C := RX12) (T := TX12) (N := 26) hx hb hts in_X12 tyX12 tyX12_ok nmX12 hown hK hP hD hS 0 rfl rfl 12 (by decide) q_12 (fun _ h9 => h9) rfl (by decide +kernel) rfl rfl (Nat.le_of_ble_eq_true rfl) dX12_become_107 (fun H locs hP hD hS => ?_)
      have hP : va_P D vwCl (wX12_become cI cB a_mo a_mem a_mks a_mr a_cnt a_wd a_one a_two a_mmade a_mrest a_old v_thrown x_15 x_26 m_42 m_58 x_66 x_75 x_86 x_98 x_107 v_mwanted v_wrong v_after v_calls v_oneB v_twoB) H := hP
      have hD : va_D A (wX12_become cI cB a_mo a_mem a_mks a_mr a_cnt a_wd a_one a_two a_mmade a_mrest a_old v_thrown x_15 x_26 m_42 m_58 x_66 x_75 x_86 x_98 x_107 v_mwanted v_wrong v_after v_calls v_oneB v_twoB) := hD
      have hf9 : (x_15, x_26, m_42, m_58, x_66, x_75, x_86, x_98, x_107) = fX12_become x0 v_mask v_key v_wait v_problem v_code v_length v_cond v_masks v_addr := by subst ex_107; subst ex_98; subst ex_86; subst ex_75; subst ex_66; subst ex_26; subst ex_15; subst ex_8; subst ex_5; simp only [fX12_become, ← em_42, ← em_58]
      exact W.vret hx hb hr (fun t9 ht9 hW9 => ⟨⟨(x_15, x_26, m_42, m_58, x_66, x_75, x_86, x_98, x_107), rfl, hf9, ⟨by rw [ht9]; exact hP, va_K.moved hW9.alike hK, hD⟩⟩, hS.F ht9⟩) hS.2.2 dX12_become_110
    refine lv_if_eq (tgt := 57) hx hb dX12_become_50 (by decide) (fun c_50 => ?_) (fun c_50 => ?_)
    · skip
      refine lv_iconst (v := 0) hx hb dX12_become_57 (by decide) ?_
      exact J_58 0 (by (try simp only [if_pos c_50])) _ _ hP hD hS ls (lv_sub hl [0, 1, 2, 3] rfl)
    · skip
      refine lv_iconst (v := 1) hx hb dX12_become_53 (by decide) ?_
      refine lv_goto (tgt := 58) hx hb dX12_become_54 (by decide) ?_
      exact J_58 1 (by (try simp only [if_neg c_50])) _ _ hP hD hS ls (lv_sub hl [0, 1, 2, 3] rfl)
  refine lv_if_eq (tgt := 41) hx hb dX12_become_34 (by decide) (fun c_34 => ?_) (fun c_34 => ?_)
  · skip
    refine lv_iconst (v := 0) hx hb dX12_become_41 (by decide) ?_
    exact J_42 0 (by (try simp only [if_pos c_34])) _ _ hP hD hS ls (lv_sub hl [2, 3, 1, 0] rfl)
  · skip
    refine lv_iconst (v := 1) hx hb dX12_become_37 (by decide) ?_
    refine lv_goto (tgt := 42) hx hb dX12_become_38 (by decide) ?_
    exact J_42 1 (by (try simp only [if_neg c_34])) _ _ hP hD hS ls (lv_sub hl [2, 3, 1, 0] rfl)
theorem hdX12_become : yX12_become.cls = RX12 ∧ yX12_become.cls ≠ "java/lang/invoke/MethodHandle" ∧ yX12_become.cls ≠ "java/lang/invoke/VarHandle" ∧ (parseMethodDescriptor yX12_become.desc).map (fun d => d.parameters.length) = some 1 := by decide +kernel
noncomputable def fX12_status (v_thrown : Int32) (v_mask : Int32) (v_key : Int32) (v_wait : Int32) (v_problem : Int32) (v_code : Int32) (v_length : Int32) (v_cond : Int32) (v_masks : Int32) (v_addr : Int32) : (Int64 × Int32) :=
  let r_6 := fX12_whole v_mask v_key v_wait v_problem v_code v_length v_cond v_masks v_addr
  (r_6, 0)
abbrev wX12_status (cI cB : ClassId) (a_mo a_mem a_mks a_mr a_cnt a_wd a_one a_two a_mmade a_mrest a_old : Nat) (v_thrown : Int32) (v_mask : Int32) (v_key : Int32) (v_wait : Int32) (v_problem : Int32) (v_code : Int32) (v_length : Int32) (v_cond : Int32) (v_masks : Int32) (v_addr : Int32) (v_mwanted : Int32) (v_wrong : Int32) (v_after : Int32) (v_calls : Int32) (v_oneB : Int32) (v_twoB : Int32) : va_W := [(a_mo, .inr (12, [.int v_thrown, .ref a_mem, .ref a_mks, .ref a_mr, .int v_mask, .int v_key, .int v_wait, .int v_problem, .int v_code, .int v_length, .int v_cond, .int v_masks, .int v_addr, .int v_mwanted, .ref a_cnt, .ref a_wd, .int v_wrong, .int v_after, .int v_calls, .ref a_one, .int v_oneB, .ref a_two, .int v_twoB, .ref a_mmade, .ref a_mrest, .ref a_old]))]
abbrev rmX12_status : Room := { frames := 2, cells := 0, slots := 0, locals := 41 }
abbrev qX12_status (D : va_G) (cI cB : ClassId) (a_mo a_mem a_mks a_mr a_cnt a_wd a_one a_two a_mmade a_mrest a_old : Nat) (v_thrown : Int32) (v_mask : Int32) (v_key : Int32) (v_wait : Int32) (v_problem : Int32) (v_code : Int32) (v_length : Int32) (v_cond : Int32) (v_masks : Int32) (v_addr : Int32) (v_mwanted : Int32) (v_wrong : Int32) (v_after : Int32) (v_calls : Int32) (v_oneB : Int32) (v_twoB : Int32) : (Nat → Prop) → Array Value → State → Outcome → State → Prop := fun A9 => va_Ql (fun (r9 : Int64) (u9 : Int32) => r9 = (fX12_status v_thrown v_mask v_key v_wait v_problem v_code v_length v_cond v_masks v_addr).1 ∧ u9 = (fX12_status v_thrown v_mask v_key v_wait v_problem v_code v_length v_cond v_masks v_addr).2) (fun u9 t9 => atW D (TYS cI cB) A9 (wX12_status cI cB a_mo a_mem a_mks a_mr a_cnt a_wd a_one a_two a_mmade a_mrest a_old u9 v_mask v_key v_wait v_problem v_code v_length v_cond v_masks v_addr v_mwanted v_wrong v_after v_calls v_oneB v_twoB) t9) A9
set_option maxHeartbeats 4000000 in
set_option maxRecDepth 100000 in
theorem kX12_status (l : Launch) (D : va_G) (cI cB : ClassId) (a_mo a_mem a_mks a_mr a_cnt a_wd a_one a_two a_mmade a_mrest a_old : Nat) (sz : Nat) (v_thrown : Int32) (v_mask : Int32) (v_key : Int32) (v_wait : Int32) (v_problem : Int32) (v_code : Int32) (v_length : Int32) (v_cond : Int32) (v_masks : Int32) (v_addr : Int32) (v_mwanted : Int32) (v_wrong : Int32) (v_after : Int32) (v_calls : Int32) (v_oneB : Int32) (v_twoB : Int32) : MetW l yX12_status (WK yX12_status cX12_status 1 (some .long)) rmX12_status D (TYS cI cB) (wX12_status cI cB a_mo a_mem a_mks a_mr a_cnt a_wd a_one a_two a_mmade a_mrest a_old v_thrown v_mask v_key v_wait v_problem v_code v_length v_cond v_masks v_addr v_mwanted v_wrong v_after v_calls v_oneB v_twoB) sz [.ref a_mo] (qX12_status D cI cB a_mo a_mem a_mks a_mr a_cnt a_wd a_one a_two a_mmade a_mrest a_old v_thrown v_mask v_key v_wait v_problem v_code v_length v_cond v_masks v_addr v_mwanted v_wrong v_after v_calls v_oneB v_twoB) 0 0 := by
  refine met_std (by decide) rfl (Nat.le_of_ble_eq_true rfl) ?_
  intro p e s m below meth c A ls H hx hb hr hml hown hts hlocks hA hP hK hD hS hNW hl
  have hl : lv_has ls 1 [(0, .ref a_mo)] := hl
  have q_0 := hts _ (List.mem_cons_of_mem _ wd_788)
  refine lv_aload_n hx hb dX12_status_0 rfl (lv_at hl 0 rfl) ?_
  refine lv_iconst (v := 0) hx hb dX12_status_1 (by decide) ?_
  refine va_put (D := D) (ci := 12) (v := .int 0) (ty := .int) (C := RX12) (T := TX12) (N := 26) hx hb hts in_X12 tyX12 tyX12_ok nmX12 hown hK hP hD hS 0 rfl rfl 0 (by decide) q_0 (fun _ h9 => h9) rfl (by decide +kernel) rfl rfl (Nat.le_of_ble_eq_true rfl) dX12_status_2 (fun H locs hP hD hS => ?_)
  have hP : va_P D vwCl (wX12_status cI cB a_mo a_mem a_mks a_mr a_cnt a_wd a_one a_two a_mmade a_mrest a_old 0 v_mask v_key v_wait v_problem v_code v_length v_cond v_masks v_addr v_mwanted v_wrong v_after v_calls v_oneB v_twoB) H := hP
  have hD : va_D A (wX12_status cI cB a_mo a_mem a_mks a_mr a_cnt a_wd a_one a_two a_mmade a_mrest a_old 0 v_mask v_key v_wait v_problem v_code v_length v_cond v_masks v_addr v_mwanted v_wrong v_after v_calls v_oneB v_twoB) := hD
  refine lv_aload_n hx hb dX12_status_5 rfl (lv_at hl 0 rfl) ?_
  have hPc : va_P D vwCl (wX12_whole cI cB a_mo a_mem a_mks a_mr a_cnt a_wd a_one a_two a_mmade a_mrest a_old 0 v_mask v_key v_wait v_problem v_code v_length v_cond v_masks v_addr v_mwanted v_wrong v_after v_calls v_oneB v_twoB) H := hP.sub [0] rfl
  have hDc : va_D A (wX12_whole cI cB a_mo a_mem a_mks a_mr a_cnt a_wd a_one a_two a_mmade a_mrest a_old 0 v_mask v_key v_wait v_problem v_code v_length v_cond v_masks v_addr v_mwanted v_wrong v_after v_calls v_oneB v_twoB) := hD.sub [0] (by decide) rfl
  have hFc := va_free (wc := (wX12_whole cI cB a_mo a_mem a_mks a_mr a_cnt a_wd a_one a_two a_mmade a_mrest a_old 0 v_mask v_key v_wait v_problem v_code v_length v_cond v_masks v_addr v_mwanted v_wrong v_after v_calls v_oneB v_twoB)) hD hS hA [0] rfl
  refine va_calll (va_runV (As := []) (rest := []) ⟨hx, hb, hml, hown, hts⟩ (kX12_whole l D cI cB a_mo a_mem a_mks a_mr a_cnt a_wd a_one a_two a_mmade a_mrest a_old H.size 0 v_mask v_key v_wait v_problem v_code v_length v_cond v_masks v_addr v_mwanted v_wrong v_after v_calls v_oneB v_twoB ) (cwV 0 hts (gd_V wd_812 wd_813 wd_814 wd_807 wd_795) rfl rfl rfl hdX12_whole ⟨Nat.le_of_ble_eq_true rfl, Nat.le_of_ble_eq_true rfl⟩) (preV_std (ci := 12) (q0 := 0) hPc hK hDc hNW rfl rfl) rfl rfl hl.1 rfl (lv_room (Nat.le_of_ble_eq_true rfl)) dX12_status_6 ⟨Nat.zero_le _, Nat.zero_le _⟩) hS (fun q _ h => hFc q h) hFc (fun r_6 u_6 t9 H1 locs ht9 hvm9 hw9 hB9 hz9 hk9 hS => ?_)
  have er_6 : r_6 = fX12_whole v_mask v_key v_wait v_problem v_code v_length v_cond v_masks v_addr := hw9
  obtain ⟨hP, hD⟩ := back_std (w1 := (wX12_whole cI cB a_mo a_mem a_mks a_mr a_cnt a_wd a_one a_two a_mmade a_mrest a_old 0 v_mask v_key v_wait v_problem v_code v_length v_cond v_masks v_addr v_mwanted v_wrong v_after v_calls v_oneB v_twoB)) (w2 := (wX12_status cI cB a_mo a_mem a_mks a_mr a_cnt a_wd a_one a_two a_mmade a_mrest a_old 0 v_mask v_key v_wait v_problem v_code v_length v_cond v_masks v_addr v_mwanted v_wrong v_after v_calls v_oneB v_twoB)) (wr := []) hP hD [0] [] [0] rfl rfl (by decide) (by decide) hk9 hFc hB9 ht9 (by decide) rfl
  clear hB9 hk9 hz9 hvm9 ht9 hFc hPc hDc
  generalize H1 = H at hP hS ⊢
  have hf9 : (r_6, 0) = fX12_status v_thrown v_mask v_key v_wait v_problem v_code v_length v_cond v_masks v_addr := by simp only [fX12_status, ← er_6]
  exact W.lret hx hb hr (fun t9 ht9 hW9 => ⟨⟨r_6, 0, rfl, ⟨by rw [← hf9], by rw [← hf9]⟩, ⟨by rw [ht9]; exact hP, va_K.moved hW9.alike hK, hD⟩⟩, hS.F ht9⟩) hS.2.2 dX12_status_9
theorem hdX12_status : yX12_status.cls = RX12 ∧ yX12_status.cls ≠ "java/lang/invoke/MethodHandle" ∧ yX12_status.cls ≠ "java/lang/invoke/VarHandle" ∧ (parseMethodDescriptor yX12_status.desc).map (fun d => d.parameters.length) = some 0 := by decide +kernel
noncomputable def fX12_load (x0 : Int64) (v_thrown : Int32) (v_mask : Int32) (v_key : Int32) (v_wait : Int32) (v_problem : Int32) (v_code : Int32) (v_length : Int32) (v_cond : Int32) (v_masks : Int32) (v_addr : Int32) : (Int32 × Int32 × Int32 × Int32 × Int32 × Int32 × Int32 × Int32 × Int32 × Int32) :=
  let u_7 := fX12_become x0 v_mask v_key v_wait v_problem v_code v_length v_cond v_masks v_addr
  (0, u_7.1, u_7.2.1, u_7.2.2.1, u_7.2.2.2.1, u_7.2.2.2.2.1, u_7.2.2.2.2.2.1, u_7.2.2.2.2.2.2.1, u_7.2.2.2.2.2.2.2.1, u_7.2.2.2.2.2.2.2.2)
abbrev wX12_load (cI cB : ClassId) (a_mo a_mem a_mks a_mr a_cnt a_wd a_one a_two a_mmade a_mrest a_old : Nat) (v_thrown : Int32) (v_mask : Int32) (v_key : Int32) (v_wait : Int32) (v_problem : Int32) (v_code : Int32) (v_length : Int32) (v_cond : Int32) (v_masks : Int32) (v_addr : Int32) (v_mwanted : Int32) (v_wrong : Int32) (v_after : Int32) (v_calls : Int32) (v_oneB : Int32) (v_twoB : Int32) : va_W := [(a_mo, .inr (12, [.int v_thrown, .ref a_mem, .ref a_mks, .ref a_mr, .int v_mask, .int v_key, .int v_wait, .int v_problem, .int v_code, .int v_length, .int v_cond, .int v_masks, .int v_addr, .int v_mwanted, .ref a_cnt, .ref a_wd, .int v_wrong, .int v_after, .int v_calls, .ref a_one, .int v_oneB, .ref a_two, .int v_twoB, .ref a_mmade, .ref a_mrest, .ref a_old]))]
abbrev rmX12_load : Room := { frames := 1, cells := 0, slots := 0, locals := 24 }
abbrev qX12_load (D : va_G) (cI cB : ClassId) (a_mo a_mem a_mks a_mr a_cnt a_wd a_one a_two a_mmade a_mrest a_old : Nat) (v_thrown : Int32) (v_mask : Int32) (v_key : Int32) (v_wait : Int32) (v_problem : Int32) (v_code : Int32) (v_length : Int32) (v_cond : Int32) (v_masks : Int32) (v_addr : Int32) (v_mwanted : Int32) (v_wrong : Int32) (v_after : Int32) (v_calls : Int32) (v_oneB : Int32) (v_twoB : Int32) (x0 : Int64) : (Nat → Prop) → Array Value → State → Outcome → State → Prop := fun A9 => va_Qv (fun (u9 : (Int32 × Int32 × Int32 × Int32 × Int32 × Int32 × Int32 × Int32 × Int32 × Int32)) => u9 = fX12_load x0 v_thrown v_mask v_key v_wait v_problem v_code v_length v_cond v_masks v_addr) (fun u9 t9 => atW D (TYS cI cB) A9 (wX12_load cI cB a_mo a_mem a_mks a_mr a_cnt a_wd a_one a_two a_mmade a_mrest a_old u9.1 u9.2.1 u9.2.2.1 u9.2.2.2.1 u9.2.2.2.2.1 u9.2.2.2.2.2.1 u9.2.2.2.2.2.2.1 u9.2.2.2.2.2.2.2.1 u9.2.2.2.2.2.2.2.2.1 u9.2.2.2.2.2.2.2.2.2 v_mwanted v_wrong v_after v_calls v_oneB v_twoB) t9) A9
set_option maxHeartbeats 4000000 in
set_option maxRecDepth 100000 in
theorem kX12_load (l : Launch) (D : va_G) (cI cB : ClassId) (a_mo a_mem a_mks a_mr a_cnt a_wd a_one a_two a_mmade a_mrest a_old : Nat) (sz : Nat) (v_thrown : Int32) (v_mask : Int32) (v_key : Int32) (v_wait : Int32) (v_problem : Int32) (v_code : Int32) (v_length : Int32) (v_cond : Int32) (v_masks : Int32) (v_addr : Int32) (v_mwanted : Int32) (v_wrong : Int32) (v_after : Int32) (v_calls : Int32) (v_oneB : Int32) (v_twoB : Int32) (x0 : Int64) : MetW l yX12_load (WK yX12_load cX12_load 3 none) rmX12_load D (TYS cI cB) (wX12_load cI cB a_mo a_mem a_mks a_mr a_cnt a_wd a_one a_two a_mmade a_mrest a_old v_thrown v_mask v_key v_wait v_problem v_code v_length v_cond v_masks v_addr v_mwanted v_wrong v_after v_calls v_oneB v_twoB) sz [.ref a_mo, .long x0] (qX12_load D cI cB a_mo a_mem a_mks a_mr a_cnt a_wd a_one a_two a_mmade a_mrest a_old v_thrown v_mask v_key v_wait v_problem v_code v_length v_cond v_masks v_addr v_mwanted v_wrong v_after v_calls v_oneB v_twoB x0) 0 0 := by
  refine met_std (by decide) rfl (Nat.le_of_ble_eq_true rfl) ?_
  intro p e s m below meth c A ls H hx hb hr hml hown hts hlocks hA hP hK hD hS hNW hl
  have hl : lv_has ls 3 [(0, .ref a_mo), (1, .long x0)] := hl
  have q_0 := hts _ (List.mem_cons_of_mem _ wd_788)
  refine lv_aload_n hx hb dX12_load_0 rfl (lv_at hl 0 rfl) ?_
  refine lv_iconst (v := 0) hx hb dX12_load_1 (by decide) ?_
  refine va_put (D := D) (ci := 12) (v := .int 0) (ty := .int) (C := RX12) (T := TX12) (N := 26) hx hb hts in_X12 tyX12 tyX12_ok nmX12 hown hK hP hD hS 0 rfl rfl 0 (by decide) q_0 (fun _ h9 => h9) rfl (by decide +kernel) rfl rfl (Nat.le_of_ble_eq_true rfl) dX12_load_2 (fun H locs hP hD hS => ?_)
  have hP : va_P D vwCl (wX12_load cI cB a_mo a_mem a_mks a_mr a_cnt a_wd a_one a_two a_mmade a_mrest a_old 0 v_mask v_key v_wait v_problem v_code v_length v_cond v_masks v_addr v_mwanted v_wrong v_after v_calls v_oneB v_twoB) H := hP
  have hD : va_D A (wX12_load cI cB a_mo a_mem a_mks a_mr a_cnt a_wd a_one a_two a_mmade a_mrest a_old 0 v_mask v_key v_wait v_problem v_code v_length v_cond v_masks v_addr v_mwanted v_wrong v_after v_calls v_oneB v_twoB) := hD
  refine lv_aload_n hx hb dX12_load_5 rfl (lv_at hl 0 rfl) ?_
  refine lv_lload_n hx hb dX12_load_6 rfl (lv_at hl 1 rfl) ?_
  have hPc : va_P D vwCl (wX12_become cI cB a_mo a_mem a_mks a_mr a_cnt a_wd a_one a_two a_mmade a_mrest a_old 0 v_mask v_key v_wait v_problem v_code v_length v_cond v_masks v_addr v_mwanted v_wrong v_after v_calls v_oneB v_twoB) H := hP.sub [0] rfl
  have hDc : va_D A (wX12_become cI cB a_mo a_mem a_mks a_mr a_cnt a_wd a_one a_two a_mmade a_mrest a_old 0 v_mask v_key v_wait v_problem v_code v_length v_cond v_masks v_addr v_mwanted v_wrong v_after v_calls v_oneB v_twoB) := hD.sub [0] (by decide) rfl
  have hFc := va_free (wc := (wX12_become cI cB a_mo a_mem a_mks a_mr a_cnt a_wd a_one a_two a_mmade a_mrest a_old 0 v_mask v_key v_wait v_problem v_code v_length v_cond v_masks v_addr v_mwanted v_wrong v_after v_calls v_oneB v_twoB)) hD hS hA [0] rfl
  refine va_callv (va_runV (As := [.long x0]) (rest := []) ⟨hx, hb, hml, hown, hts⟩ (kX12_become l D cI cB a_mo a_mem a_mks a_mr a_cnt a_wd a_one a_two a_mmade a_mrest a_old H.size 0 v_mask v_key v_wait v_problem v_code v_length v_cond v_masks v_addr v_mwanted v_wrong v_after v_calls v_oneB v_twoB x0) (cwV 1 hts (gd_V wd_816 wd_817 wd_818 wd_807 wd_808) rfl rfl rfl hdX12_become ⟨Nat.le_of_ble_eq_true rfl, Nat.le_of_ble_eq_true rfl⟩) (preV_std (ci := 12) (q0 := 0) hPc hK hDc hNW rfl rfl) rfl rfl hl.1 rfl (lv_room (Nat.le_of_ble_eq_true rfl)) dX12_load_7 ⟨Nat.zero_le _, Nat.zero_le _⟩) hS (fun q _ h => hFc q h) hFc (fun u_7 t9 H1 locs ht9 hvm9 hw9 hB9 hz9 hk9 hS => ?_)
  have eu_7 : u_7 = fX12_become x0 v_mask v_key v_wait v_problem v_code v_length v_cond v_masks v_addr := hw9
  obtain ⟨hP, hD⟩ := back_std (w1 := (wX12_become cI cB a_mo a_mem a_mks a_mr a_cnt a_wd a_one a_two a_mmade a_mrest a_old 0 u_7.1 u_7.2.1 u_7.2.2.1 u_7.2.2.2.1 u_7.2.2.2.2.1 u_7.2.2.2.2.2.1 u_7.2.2.2.2.2.2.1 u_7.2.2.2.2.2.2.2.1 u_7.2.2.2.2.2.2.2.2 v_mwanted v_wrong v_after v_calls v_oneB v_twoB)) (w2 := (wX12_load cI cB a_mo a_mem a_mks a_mr a_cnt a_wd a_one a_two a_mmade a_mrest a_old 0 u_7.1 u_7.2.1 u_7.2.2.1 u_7.2.2.2.1 u_7.2.2.2.2.1 u_7.2.2.2.2.2.1 u_7.2.2.2.2.2.2.1 u_7.2.2.2.2.2.2.2.1 u_7.2.2.2.2.2.2.2.2 v_mwanted v_wrong v_after v_calls v_oneB v_twoB)) (wr := []) hP hD [0] [] [0] rfl rfl (by decide) (by decide) hk9 hFc hB9 ht9 (by decide) rfl
  clear hB9 hk9 hz9 hvm9 ht9 hFc hPc hDc
  generalize H1 = H at hP hS ⊢
  have hf9 : (0, u_7.1, u_7.2.1, u_7.2.2.1, u_7.2.2.2.1, u_7.2.2.2.2.1, u_7.2.2.2.2.2.1, u_7.2.2.2.2.2.2.1, u_7.2.2.2.2.2.2.2.1, u_7.2.2.2.2.2.2.2.2) = fX12_load x0 v_thrown v_mask v_key v_wait v_problem v_code v_length v_cond v_masks v_addr := by simp only [fX12_load, ← eu_7]
  exact W.vret hx hb hr (fun t9 ht9 hW9 => ⟨⟨(0, u_7.1, u_7.2.1, u_7.2.2.1, u_7.2.2.2.1, u_7.2.2.2.2.1, u_7.2.2.2.2.2.1, u_7.2.2.2.2.2.2.1, u_7.2.2.2.2.2.2.2.1, u_7.2.2.2.2.2.2.2.2), rfl, hf9, ⟨by rw [ht9]; exact hP, va_K.moved hW9.alike hK, hD⟩⟩, hS.F ht9⟩) hS.2.2 dX12_load_10
theorem hdX12_load : yX12_load.cls = RX12 ∧ yX12_load.cls ≠ "java/lang/invoke/MethodHandle" ∧ yX12_load.cls ≠ "java/lang/invoke/VarHandle" ∧ (parseMethodDescriptor yX12_load.desc).map (fun d => d.parameters.length) = some 1 := by decide +kernel
noncomputable def LX12_fetch_5 (x0 : Int32) (x1 : Int32) (v_mF : (Nat → Int32)) : Nat → (Int64 × Int32) → (Int64 × Int32)
  | 0, w_5 => w_5
  | n9 + 1, w_5 =>
    if x1 ≤ w_5.2 then ((w_5.1, w_5.2)) else (let x_26 := ((w_5.1 <<< ((8 : Int32).toInt64 &&& 63)) ||| ((v_mF ((x0 + w_5.2) : Int32).toNatClampNeg) : Int32).toInt64); let x_27 := w_5.2 + 1; LX12_fetch_5 x0 x1 v_mF n9 (x_26, x_27))
noncomputable def fX12_fetch (x0 : Int32) (x1 : Int32) (v_mF : (Nat → Int32)) : Int64 :=
  let g_5 := LX12_fetch_5 x0 x1 v_mF (msU x1 0 + 1) (0, 0)
  g_5.1
abbrev wX12_fetch (cI cB : ClassId) (a_mo a_mem a_mks a_mr a_cnt a_wd a_one a_two a_mmade a_mrest a_old : Nat) (v_thrown : Int32) (v_mask : Int32) (v_key : Int32) (v_wait : Int32) (v_problem : Int32) (v_code : Int32) (v_length : Int32) (v_cond : Int32) (v_masks : Int32) (v_addr : Int32) (v_mwanted : Int32) (v_wrong : Int32) (v_after : Int32) (v_calls : Int32) (v_oneB : Int32) (v_twoB : Int32) (v_mF : (Nat → Int32)) : va_W := [(a_mo, .inr (12, [.int v_thrown, .ref a_mem, .ref a_mks, .ref a_mr, .int v_mask, .int v_key, .int v_wait, .int v_problem, .int v_code, .int v_length, .int v_cond, .int v_masks, .int v_addr, .int v_mwanted, .ref a_cnt, .ref a_wd, .int v_wrong, .int v_after, .int v_calls, .ref a_one, .int v_oneB, .ref a_two, .int v_twoB, .ref a_mmade, .ref a_mrest, .ref a_old])), (a_mem, .inl (cI, 8192, .inl v_mF))]
abbrev rmX12_fetch : Room := { frames := 0, cells := 0, slots := 0, locals := 0 }
abbrev qX12_fetch (D : va_G) (cI cB : ClassId) (a_mo a_mem a_mks a_mr a_cnt a_wd a_one a_two a_mmade a_mrest a_old : Nat) (v_thrown : Int32) (v_mask : Int32) (v_key : Int32) (v_wait : Int32) (v_problem : Int32) (v_code : Int32) (v_length : Int32) (v_cond : Int32) (v_masks : Int32) (v_addr : Int32) (v_mwanted : Int32) (v_wrong : Int32) (v_after : Int32) (v_calls : Int32) (v_oneB : Int32) (v_twoB : Int32) (v_mF : (Nat → Int32)) (x0 : Int32) (x1 : Int32) : (Nat → Prop) → Array Value → State → Outcome → State → Prop := fun A9 => va_Ql (fun (r9 : Int64) (u9 : Unit) => r9 = fX12_fetch x0 x1 v_mF) (fun u9 t9 => atW D (TYS cI cB) A9 (wX12_fetch cI cB a_mo a_mem a_mks a_mr a_cnt a_wd a_one a_two a_mmade a_mrest a_old v_thrown v_mask v_key v_wait v_problem v_code v_length v_cond v_masks v_addr v_mwanted v_wrong v_after v_calls v_oneB v_twoB v_mF) t9) A9
set_option maxHeartbeats 4000000 in
set_option maxRecDepth 100000 in
theorem kX12_fetch (l : Launch) (D : va_G) (cI cB : ClassId) (a_mo a_mem a_mks a_mr a_cnt a_wd a_one a_two a_mmade a_mrest a_old : Nat) (sz : Nat) (v_thrown : Int32) (v_mask : Int32) (v_key : Int32) (v_wait : Int32) (v_problem : Int32) (v_code : Int32) (v_length : Int32) (v_cond : Int32) (v_masks : Int32) (v_addr : Int32) (v_mwanted : Int32) (v_wrong : Int32) (v_after : Int32) (v_calls : Int32) (v_oneB : Int32) (v_twoB : Int32) (v_mF : (Nat → Int32)) (x0 : Int32) (x1 : Int32) (ha : inM x0 x1) : MetW l yX12_fetch (WK yX12_fetch cX12_fetch 6 (some .long)) rmX12_fetch D (TYS cI cB) (wX12_fetch cI cB a_mo a_mem a_mks a_mr a_cnt a_wd a_one a_two a_mmade a_mrest a_old v_thrown v_mask v_key v_wait v_problem v_code v_length v_cond v_masks v_addr v_mwanted v_wrong v_after v_calls v_oneB v_twoB v_mF) sz [.ref a_mo, .int x0, .int x1] (qX12_fetch D cI cB a_mo a_mem a_mks a_mr a_cnt a_wd a_one a_two a_mmade a_mrest a_old v_thrown v_mask v_key v_wait v_problem v_code v_length v_cond v_masks v_addr v_mwanted v_wrong v_after v_calls v_oneB v_twoB v_mF x0 x1) 0 0 := by
  refine met_std (by decide) rfl (Nat.le_of_ble_eq_true rfl) ?_
  intro p e s m below meth c A ls H hx hb hr hml hown hts hlocks hA hP hK hD hS hNW hl
  have hl : lv_has ls 6 [(0, .ref a_mo), (1, .int x0), (2, .int x1)] := hl
  have q_0 := hts _ (List.mem_cons_of_mem _ wd_777)
  refine lv_lconst (v := 0) hx hb dX12_fetch_0 (by decide) ?_
  refine lv_lstore_n (lv' := [(3, .long 0), (0, .ref a_mo), (1, .int x0), (2, .int x1)]) hx hb dX12_fetch_1 rfl hl (by decide) rfl (fun ls hl => ?_)
  refine lv_iconst (v := 0) hx hb dX12_fetch_2 (by decide) ?_
  refine lv_istore (lv' := [(5, .int 0), (3, .long 0), (0, .ref a_mo), (1, .int x0), (2, .int x1)]) hx hb dX12_fetch_3 hl (by decide) rfl (fun ls hl => ?_)
  obtain ⟨g_5, eg_5⟩ : ∃ z : (Int64 × Int32), z = LX12_fetch_5 x0 x1 v_mF (msU x1 0 + 1) (0, 0) := ⟨_, rfl⟩
  have K_5_0 : ∀ (H : Heap) (locs : List Loc), va_P D vwCl (wX12_fetch cI cB a_mo a_mem a_mks a_mr a_cnt a_wd a_one a_two a_mmade a_mrest a_old v_thrown v_mask v_key v_wait v_problem v_code v_length v_cond v_masks v_addr v_mwanted v_wrong v_after v_calls v_oneB v_twoB v_mF) H → va_D A (wX12_fetch cI cB a_mo a_mem a_mks a_mr a_cnt a_wd a_one a_two a_mmade a_mrest a_old v_thrown v_mask v_key v_wait v_problem v_code v_length v_cond v_masks v_addr v_mwanted v_wrong v_after v_calls v_oneB v_twoB v_mF) → va_S A s.heap H locs → ∀ (ls : Array Slot), lv_has ls 6 [(0, .ref a_mo), (1, .int x0), (2, .int x1), (3, .long g_5.1), (5, .int g_5.2)] → W p l e rmX12_fetch s m ([.ref a_mo, .int x0, .int x1] : List Value).toArray below meth c H locs 0 0 (MQ below (qX12_fetch D cI cB a_mo a_mem a_mks a_mr a_cnt a_wd a_one a_two a_mmade a_mrest a_old v_thrown v_mask v_key v_wait v_problem v_code v_length v_cond v_masks v_addr v_mwanted v_wrong v_after v_calls v_oneB v_twoB v_mF x0 x1 A) ([.ref a_mo, .int x0, .int x1] : List Value).toArray s 0 0 A) (F0 m 33 ls []) := by
    intro H locs hP hD hS ls hl
    refine lv_lload_n hx hb dX12_fetch_33 rfl (lv_at hl 3 rfl) ?_
    have hf9 : g_5.1 = fX12_fetch x0 x1 v_mF := by simp only [fX12_fetch, ← eg_5]
    exact W.lret hx hb hr (fun t9 ht9 hW9 => ⟨⟨g_5.1, (), rfl, hf9, ⟨by rw [ht9]; exact hP, va_K.moved hW9.alike hK, hD⟩⟩, hS.F ht9⟩) hS.2.2 dX12_fetch_34
  have lp_5 : ∀ (n9 : Nat) (w_5 : (Int64 × Int32)), msU x1 w_5.2 < n9 → 0 ≤ w_5.2 → LX12_fetch_5 x0 x1 v_mF n9 w_5 = g_5 → ∀ (H : Heap) (locs : List Loc), va_P D vwCl (wX12_fetch cI cB a_mo a_mem a_mks a_mr a_cnt a_wd a_one a_two a_mmade a_mrest a_old v_thrown v_mask v_key v_wait v_problem v_code v_length v_cond v_masks v_addr v_mwanted v_wrong v_after v_calls v_oneB v_twoB v_mF) H → va_D A (wX12_fetch cI cB a_mo a_mem a_mks a_mr a_cnt a_wd a_one a_two a_mmade a_mrest a_old v_thrown v_mask v_key v_wait v_problem v_code v_length v_cond v_masks v_addr v_mwanted v_wrong v_after v_calls v_oneB v_twoB v_mF) → va_S A s.heap H locs → ∀ (ls : Array Slot), lv_has ls 6 [(0, .ref a_mo), (1, .int x0), (2, .int x1), (3, .long w_5.1), (5, .int w_5.2)] → W p l e rmX12_fetch s m ([.ref a_mo, .int x0, .int x1] : List Value).toArray below meth c H locs 0 0 (MQ below (qX12_fetch D cI cB a_mo a_mem a_mks a_mr a_cnt a_wd a_one a_two a_mmade a_mrest a_old v_thrown v_mask v_key v_wait v_problem v_code v_length v_cond v_masks v_addr v_mwanted v_wrong v_after v_calls v_oneB v_twoB v_mF x0 x1 A) ([.ref a_mo, .int x0, .int x1] : List Value).toArray s 0 0 A) (F0 m 5 ls []) := by
    intro n9
    induction n9 with
    | zero => intro w_5 hm9; exact absurd hm9 (Nat.not_lt_zero _)
    | succ n9 ih =>
      intro w_5 hm9 hI9 hL9 H locs hP hD hS ls hl
      have hI_5 := hI9
      refine lv_iload hx hb dX12_fetch_5 (lv_at hl 4 rfl) ?_
      refine lv_iload_n hx hb dX12_fetch_7 rfl (lv_at hl 2 rfl) ?_
      refine lv_icmp_ge (tgt := 33) hx hb dX12_fetch_8 (by decide) (fun c_8 => ?_) (fun c_8 => ?_)
      · skip
        have hg9 : (w_5.1, w_5.2) = g_5 := by rw [← hL9]; simp only [LX12_fetch_5]; (try simp only [if_pos c_8])
        subst hg9
        exact K_5_0 _ _ hP hD hS ls (lv_sub hl [0, 1, 2, 3, 4] rfl)
      · skip
        refine lv_lload_n hx hb dX12_fetch_11 rfl (lv_at hl 3 rfl) ?_
        refine lv_bipush (v := 8) hx hb dX12_fetch_12 (by decide) ?_
        refine lv_lshl hx hb dX12_fetch_14 rfl ?_
        refine lv_aload_n hx hb dX12_fetch_15 rfl (lv_at hl 0 rfl) ?_
        refine va_get (D := D) (ci := 12) (v := .ref a_mem) (C := RX12) (T := TX12) (N := 26) hx hb hts in_X12 hown hK hP 0 rfl rfl 1 (by decide) q_0 (fun _ h9 => h9) rfl dX12_fetch_16 ?_
        refine lv_iload_n hx hb dX12_fetch_19 rfl (lv_at hl 1 rfl) ?_
        refine lv_iload hx hb dX12_fetch_20 (lv_at hl 4 rfl) ?_
        refine lv_iadd hx hb dX12_fetch_22 ?_
        refine va_iald hx hb hK hP 1 0 rfl rfl (inM_at ha hI9 c_8) dX12_fetch_23 ?_
        refine lv_i2l hx hb dX12_fetch_24 rfl ?_
        refine lv_lor hx hb dX12_fetch_25 ?_
        refine lv_topl (fun x_26 ex_26 => ?_)
        refine lv_lstore_n (lv' := [(3, .long x_26), (0, .ref a_mo), (1, .int x0), (2, .int x1), (5, .int w_5.2)]) hx hb dX12_fetch_26 rfl hl (by decide) rfl (fun ls hl => ?_)
        obtain ⟨x_27, ex_27⟩ : ∃ z : Int32, z = w_5.2 + 1 := ⟨_, rfl⟩
        refine lv_iinc (v := x_27) (lv' := [(5, .int x_27), (3, .long x_26), (0, .ref a_mo), (1, .int x0), (2, .int x1)]) hx hb dX12_fetch_27 hl (k := 4) rfl (by rw [ex_27]; rfl) (by decide) rfl (fun ls hl => ?_)
        refine lv_goto (tgt := 5) hx hb dX12_fetch_30 (by decide) ?_
        exact ih (x_26, x_27) (by subst ex_27; subst ex_26;  exact Nat.lt_of_lt_of_le (ms_up c_8) (Nat.le_of_lt_succ hm9)) (by subst ex_27; subst ex_26;  exact nn_up hI9 c_8) (by rw [← hL9]; subst ex_27; subst ex_26; simp only [LX12_fetch_5]; (try simp only [if_neg c_8])) _ _ hP hD hS ls (lv_sub hl [2, 3, 4, 1, 0] rfl)
  exact lp_5 (msU x1 0 + 1) (0, 0) (Nat.lt_succ_self _) (by show (0 : Int32) ≤ 0; decide) eg_5.symm _ _ hP hD hS ls (lv_sub hl [2, 3, 4, 1, 0] rfl)
theorem hdX12_fetch : yX12_fetch.cls = RX12 ∧ yX12_fetch.cls ≠ "java/lang/invoke/MethodHandle" ∧ yX12_fetch.cls ≠ "java/lang/invoke/VarHandle" ∧ (parseMethodDescriptor yX12_fetch.desc).map (fun d => d.parameters.length) = some 2 := by decide +kernel
noncomputable def LX12_store_3 (x0 : Int32) (x1 : Int64) (x2 : Int32) : Nat → ((Nat → Int32) × Int32) → ((Nat → Int32) × Int32)
  | 0, w_3 => w_3
  | n9 + 1, w_3 =>
    if x2 ≤ w_3.2 then ((w_3.1, w_3.2)) else (let f_35 := upd w_3.1 ((x0 + w_3.2) : Int32).toNatClampNeg ((((x1 >>> (((8 * ((x2 - 1) - w_3.2)) : Int32).toInt64 &&& 63)) &&& 255) : Int64).toInt32); let x_36 := w_3.2 + 1; LX12_store_3 x0 x1 x2 n9 (f_35, x_36))
noncomputable def fX12_store (x0 : Int32) (x1 : Int64) (x2 : Int32) (v_mF : (Nat → Int32)) : (Nat → Int32) :=
  let g_3 := LX12_store_3 x0 x1 x2 (msU x2 0 + 1) (v_mF, 0)
  g_3.1
abbrev wX12_store (cI cB : ClassId) (a_mo a_mem a_mks a_mr a_cnt a_wd a_one a_two a_mmade a_mrest a_old : Nat) (v_thrown : Int32) (v_mask : Int32) (v_key : Int32) (v_wait : Int32) (v_problem : Int32) (v_code : Int32) (v_length : Int32) (v_cond : Int32) (v_masks : Int32) (v_addr : Int32) (v_mwanted : Int32) (v_wrong : Int32) (v_after : Int32) (v_calls : Int32) (v_oneB : Int32) (v_twoB : Int32) (v_mF : (Nat → Int32)) : va_W := [(a_mo, .inr (12, [.int v_thrown, .ref a_mem, .ref a_mks, .ref a_mr, .int v_mask, .int v_key, .int v_wait, .int v_problem, .int v_code, .int v_length, .int v_cond, .int v_masks, .int v_addr, .int v_mwanted, .ref a_cnt, .ref a_wd, .int v_wrong, .int v_after, .int v_calls, .ref a_one, .int v_oneB, .ref a_two, .int v_twoB, .ref a_mmade, .ref a_mrest, .ref a_old])), (a_mem, .inl (cI, 8192, .inl v_mF))]
abbrev rmX12_store : Room := { frames := 0, cells := 0, slots := 0, locals := 0 }
abbrev qX12_store (D : va_G) (cI cB : ClassId) (a_mo a_mem a_mks a_mr a_cnt a_wd a_one a_two a_mmade a_mrest a_old : Nat) (v_thrown : Int32) (v_mask : Int32) (v_key : Int32) (v_wait : Int32) (v_problem : Int32) (v_code : Int32) (v_length : Int32) (v_cond : Int32) (v_masks : Int32) (v_addr : Int32) (v_mwanted : Int32) (v_wrong : Int32) (v_after : Int32) (v_calls : Int32) (v_oneB : Int32) (v_twoB : Int32) (v_mF : (Nat → Int32)) (x0 : Int32) (x1 : Int64) (x2 : Int32) : (Nat → Prop) → Array Value → State → Outcome → State → Prop := fun A9 => va_Qv (fun (u9 : (Nat → Int32)) => u9 = fX12_store x0 x1 x2 v_mF) (fun u9 t9 => atW D (TYS cI cB) A9 (wX12_store cI cB a_mo a_mem a_mks a_mr a_cnt a_wd a_one a_two a_mmade a_mrest a_old v_thrown v_mask v_key v_wait v_problem v_code v_length v_cond v_masks v_addr v_mwanted v_wrong v_after v_calls v_oneB v_twoB u9) t9) A9
set_option maxHeartbeats 4000000 in
set_option maxRecDepth 100000 in
theorem kX12_store (l : Launch) (D : va_G) (cI cB : ClassId) (a_mo a_mem a_mks a_mr a_cnt a_wd a_one a_two a_mmade a_mrest a_old : Nat) (sz : Nat) (v_thrown : Int32) (v_mask : Int32) (v_key : Int32) (v_wait : Int32) (v_problem : Int32) (v_code : Int32) (v_length : Int32) (v_cond : Int32) (v_masks : Int32) (v_addr : Int32) (v_mwanted : Int32) (v_wrong : Int32) (v_after : Int32) (v_calls : Int32) (v_oneB : Int32) (v_twoB : Int32) (v_mF : (Nat → Int32)) (x0 : Int32) (x1 : Int64) (x2 : Int32) (ha : inM x0 x2) : MetW l yX12_store (WK yX12_store cX12_store 6 none) rmX12_store D (TYS cI cB) (wX12_store cI cB a_mo a_mem a_mks a_mr a_cnt a_wd a_one a_two a_mmade a_mrest a_old v_thrown v_mask v_key v_wait v_problem v_code v_length v_cond v_masks v_addr v_mwanted v_wrong v_after v_calls v_oneB v_twoB v_mF) sz [.ref a_mo, .int x0, .long x1, .int x2] (qX12_store D cI cB a_mo a_mem a_mks a_mr a_cnt a_wd a_one a_two a_mmade a_mrest a_old v_thrown v_mask v_key v_wait v_problem v_code v_length v_cond v_masks v_addr v_mwanted v_wrong v_after v_calls v_oneB v_twoB v_mF x0 x1 x2) 0 0 := by
  refine met_std (by decide) rfl (Nat.le_of_ble_eq_true rfl) ?_
  intro p e s m below meth c A ls H hx hb hr hml hown hts hlocks hA hP hK hD hS hNW hl
  have hl : lv_has ls 6 [(0, .ref a_mo), (1, .int x0), (2, .long x1), (4, .int x2)] := hl
  have q_0 := hts _ (List.mem_cons_of_mem _ wd_777)
  have q_1 := hts _ (List.mem_cons_of_mem _ wd_821)
  refine lv_iconst (v := 0) hx hb dX12_store_0 (by decide) ?_
  refine lv_istore (lv' := [(5, .int 0), (0, .ref a_mo), (1, .int x0), (2, .long x1), (4, .int x2)]) hx hb dX12_store_1 hl (by decide) rfl (fun ls hl => ?_)
  obtain ⟨g_3, eg_3⟩ : ∃ z : ((Nat → Int32) × Int32), z = LX12_store_3 x0 x1 x2 (msU x2 0 + 1) (v_mF, 0) := ⟨_, rfl⟩
  have K_3_0 : ∀ (H : Heap) (locs : List Loc), va_P D vwCl (wX12_store cI cB a_mo a_mem a_mks a_mr a_cnt a_wd a_one a_two a_mmade a_mrest a_old v_thrown v_mask v_key v_wait v_problem v_code v_length v_cond v_masks v_addr v_mwanted v_wrong v_after v_calls v_oneB v_twoB g_3.1) H → va_D A (wX12_store cI cB a_mo a_mem a_mks a_mr a_cnt a_wd a_one a_two a_mmade a_mrest a_old v_thrown v_mask v_key v_wait v_problem v_code v_length v_cond v_masks v_addr v_mwanted v_wrong v_after v_calls v_oneB v_twoB g_3.1) → va_S A s.heap H locs → ∀ (ls : Array Slot), lv_has ls 6 [(0, .ref a_mo), (1, .int x0), (2, .long x1), (4, .int x2), (5, .int g_3.2)] → W p l e rmX12_store s m ([.ref a_mo, .int x0, .long x1, .int x2] : List Value).toArray below meth c H locs 0 0 (MQ below (qX12_store D cI cB a_mo a_mem a_mks a_mr a_cnt a_wd a_one a_two a_mmade a_mrest a_old v_thrown v_mask v_key v_wait v_problem v_code v_length v_cond v_masks v_addr v_mwanted v_wrong v_after v_calls v_oneB v_twoB v_mF x0 x1 x2 A) ([.ref a_mo, .int x0, .long x1, .int x2] : List Value).toArray s 0 0 A) (F0 m 42 ls []) := by
    intro H locs hP hD hS ls hl
    have hf9 : g_3.1 = fX12_store x0 x1 x2 v_mF := by simp only [fX12_store, ← eg_3]
    exact W.vret hx hb hr (fun t9 ht9 hW9 => ⟨⟨g_3.1, rfl, hf9, ⟨by rw [ht9]; exact hP, va_K.moved hW9.alike hK, hD⟩⟩, hS.F ht9⟩) hS.2.2 dX12_store_42
  have lp_3 : ∀ (n9 : Nat) (w_3 : ((Nat → Int32) × Int32)), msU x2 w_3.2 < n9 → 0 ≤ w_3.2 → LX12_store_3 x0 x1 x2 n9 w_3 = g_3 → ∀ (H : Heap) (locs : List Loc), va_P D vwCl (wX12_store cI cB a_mo a_mem a_mks a_mr a_cnt a_wd a_one a_two a_mmade a_mrest a_old v_thrown v_mask v_key v_wait v_problem v_code v_length v_cond v_masks v_addr v_mwanted v_wrong v_after v_calls v_oneB v_twoB w_3.1) H → va_D A (wX12_store cI cB a_mo a_mem a_mks a_mr a_cnt a_wd a_one a_two a_mmade a_mrest a_old v_thrown v_mask v_key v_wait v_problem v_code v_length v_cond v_masks v_addr v_mwanted v_wrong v_after v_calls v_oneB v_twoB w_3.1) → va_S A s.heap H locs → ∀ (ls : Array Slot), lv_has ls 6 [(0, .ref a_mo), (1, .int x0), (2, .long x1), (4, .int x2), (5, .int w_3.2)] → W p l e rmX12_store s m ([.ref a_mo, .int x0, .long x1, .int x2] : List Value).toArray below meth c H locs 0 0 (MQ below (qX12_store D cI cB a_mo a_mem a_mks a_mr a_cnt a_wd a_one a_two a_mmade a_mrest a_old v_thrown v_mask v_key v_wait v_problem v_code v_length v_cond v_masks v_addr v_mwanted v_wrong v_after v_calls v_oneB v_twoB v_mF x0 x1 x2 A) ([.ref a_mo, .int x0, .long x1, .int x2] : List Value).toArray s 0 0 A) (F0 m 3 ls []) := by
    intro n9
    induction n9 with
    | zero => intro w_3 hm9; exact absurd hm9 (Nat.not_lt_zero _)
    | succ n9 ih =>
      intro w_3 hm9 hI9 hL9 H locs hP hD hS ls hl
      have hI_3 := hI9
      refine lv_iload hx hb dX12_store_3 (lv_at hl 4 rfl) ?_
      refine lv_iload hx hb dX12_store_5 (lv_at hl 3 rfl) ?_
      refine lv_icmp_ge (tgt := 42) hx hb dX12_store_7 (by decide) (fun c_7 => ?_) (fun c_7 => ?_)
      · skip
        have hg9 : (w_3.1, w_3.2) = g_3 := by rw [← hL9]; simp only [LX12_store_3]; (try simp only [if_pos c_7])
        subst hg9
        exact K_3_0 _ _ hP hD hS ls (lv_sub hl [0, 1, 2, 3, 4] rfl)
      · skip
        refine lv_aload_n hx hb dX12_store_10 rfl (lv_at hl 0 rfl) ?_
        refine va_get (D := D) (ci := 12) (v := .ref a_mem) (C := RX12) (T := TX12) (N := 26) hx hb hts in_X12 hown hK hP 0 rfl rfl 1 (by decide) q_0 (fun _ h9 => h9) rfl dX12_store_11 ?_
        refine lv_iload_n hx hb dX12_store_14 rfl (lv_at hl 1 rfl) ?_
        refine lv_iload hx hb dX12_store_15 (lv_at hl 4 rfl) ?_
        refine lv_iadd hx hb dX12_store_17 ?_
        refine lv_lload_n hx hb dX12_store_18 rfl (lv_at hl 2 rfl) ?_
        refine lv_bipush (v := 8) hx hb dX12_store_19 (by decide) ?_
        refine lv_iload hx hb dX12_store_21 (lv_at hl 3 rfl) ?_
        refine lv_iconst (v := 1) hx hb dX12_store_23 (by decide) ?_
        refine lv_isub hx hb dX12_store_24 ?_
        refine lv_iload hx hb dX12_store_25 (lv_at hl 4 rfl) ?_
        refine lv_isub hx hb dX12_store_27 ?_
        refine lv_imul hx hb dX12_store_28 ?_
        refine lv_lshr hx hb dX12_store_29 rfl ?_
        refine lv_ldc2 (v := 255) hx hb hown q_1 dX12_store_30 ?_
        refine lv_land hx hb dX12_store_33 ?_
        refine lv_l2i hx hb dX12_store_34 rfl ?_
        refine va_iast hx hb hK hP hD hS 1 0 rfl rfl (inM_at ha hI9 c_7) dX12_store_35 (fun H locs hP hD hS => ?_)
        obtain ⟨f_35, ef_35⟩ : ∃ z : Nat → Int32, z = upd w_3.1 ((x0 + w_3.2) : Int32).toNatClampNeg ((((x1 >>> (((8 * ((x2 - 1) - w_3.2)) : Int32).toInt64 &&& 63)) &&& 255) : Int64).toInt32) := ⟨_, rfl⟩
        have hP : va_P D vwCl (wX12_store cI cB a_mo a_mem a_mks a_mr a_cnt a_wd a_one a_two a_mmade a_mrest a_old v_thrown v_mask v_key v_wait v_problem v_code v_length v_cond v_masks v_addr v_mwanted v_wrong v_after v_calls v_oneB v_twoB (upd w_3.1 ((x0 + w_3.2) : Int32).toNatClampNeg ((((x1 >>> (((8 * ((x2 - 1) - w_3.2)) : Int32).toInt64 &&& 63)) &&& 255) : Int64).toInt32))) H := hP
        have hD : va_D A (wX12_store cI cB a_mo a_mem a_mks a_mr a_cnt a_wd a_one a_two a_mmade a_mrest a_old v_thrown v_mask v_key v_wait v_problem v_code v_length v_cond v_masks v_addr v_mwanted v_wrong v_after v_calls v_oneB v_twoB (upd w_3.1 ((x0 + w_3.2) : Int32).toNatClampNeg ((((x1 >>> (((8 * ((x2 - 1) - w_3.2)) : Int32).toInt64 &&& 63)) &&& 255) : Int64).toInt32))) := hD
        rw [← ef_35] at hP hD
        obtain ⟨x_36, ex_36⟩ : ∃ z : Int32, z = w_3.2 + 1 := ⟨_, rfl⟩
        refine lv_iinc (v := x_36) (lv' := [(5, .int x_36), (0, .ref a_mo), (1, .int x0), (2, .long x1), (4, .int x2)]) hx hb dX12_store_36 hl (k := 4) rfl (by rw [ex_36]; rfl) (by decide) rfl (fun ls hl => ?_)
        refine lv_goto (tgt := 3) hx hb dX12_store_39 (by decide) ?_
        exact ih (f_35, x_36) (by subst ex_36; subst ef_35;  exact Nat.lt_of_lt_of_le (ms_up c_7) (Nat.le_of_lt_succ hm9)) (by subst ex_36; subst ef_35;  exact nn_up hI9 c_7) (by rw [← hL9]; subst ex_36; subst ef_35; simp only [LX12_store_3]; (try simp only [if_neg c_7])) _ _ hP hD hS ls (lv_sub hl [1, 2, 3, 4, 0] rfl)
  exact lp_3 (msU x2 0 + 1) (v_mF, 0) (Nat.lt_succ_self _) (by show (0 : Int32) ≤ 0; decide) eg_3.symm _ _ hP hD hS ls (lv_sub hl [1, 2, 3, 4, 0] rfl)
theorem hdX12_store : yX12_store.cls = RX12 ∧ yX12_store.cls ≠ "java/lang/invoke/MethodHandle" ∧ yX12_store.cls ≠ "java/lang/invoke/VarHandle" ∧ (parseMethodDescriptor yX12_store.desc).map (fun d => d.parameters.length) = some 3 := by decide +kernel
noncomputable def fX12_noBytes (x0 : Int32) (x1 : Int32) : Int32 :=
  if x1 < 1 then (1) else (if 8 < x1 then (1) else (if x0 < 0 then (1) else (if x0 ≤ (8192 - x1) then (0) else (1))))
theorem zX12_noBytes (x0 : Int32) (x1 : Int32) : (fX12_noBytes x0 x1) = 0 ∨ (fX12_noBytes x0 x1) = 1 := by simp only [fX12_noBytes]; (repeat' split) <;> first | exact Or.inl rfl | exact Or.inr rfl
abbrev wX12_noBytes (cI cB : ClassId) : va_W := []
abbrev rmX12_noBytes : Room := { frames := 0, cells := 0, slots := 0, locals := 0 }
abbrev qX12_noBytes (D : va_G) (cI cB : ClassId) (x0 : Int32) (x1 : Int32) : (Nat → Prop) → Array Value → State → Outcome → State → Prop := fun A9 => va_Qi (fun (r9 : Int32) (u9 : Unit) => r9 = fX12_noBytes x0 x1) (fun u9 t9 => atW D (TYS cI cB) A9 (wX12_noBytes cI cB  ) t9) A9
set_option maxHeartbeats 4000000 in
set_option maxRecDepth 100000 in
theorem kX12_noBytes (l : Launch) (D : va_G) (cI cB : ClassId) (sz : Nat) (x0 : Int32) (x1 : Int32) : MetW l yX12_noBytes (WK yX12_noBytes cX12_noBytes 2 (some .boolean)) rmX12_noBytes D (TYS cI cB) (wX12_noBytes cI cB  ) sz [.int x0, .int x1] (qX12_noBytes D cI cB  x0 x1) 0 0 := by
  refine met_std (by decide) rfl (Nat.le_of_ble_eq_true rfl) ?_
  intro p e s m below meth c A ls H hx hb hr hml hown hts hlocks hA hP hK hD hS hNW hl
  have hl : lv_has ls 2 [(0, .int x0), (1, .int x1)] := hl
  refine lv_iload_n hx hb dX12_noBytes_0 rfl (lv_at hl 1 rfl) ?_
  refine lv_iconst (v := 1) hx hb dX12_noBytes_1 (by decide) ?_
  refine lv_icmp_lt (tgt := 24) hx hb dX12_noBytes_2 (by decide) (fun c_2 => ?_) (fun c_2 => ?_)
  · skip
    refine lv_iconst (v := 1) hx hb dX12_noBytes_24 (by decide) ?_
    refine lv_goto (tgt := 29) hx hb dX12_noBytes_25 (by decide) ?_
    have hf9 : 1 = fX12_noBytes x0 x1 := by simp only [fX12_noBytes]; (try simp only [if_pos c_2])
    exact W.zret hx hb hr (by decide) (fun t9 ht9 hW9 => ⟨⟨1, (), rfl, hf9, ⟨by rw [ht9]; exact hP, va_K.moved hW9.alike hK, hD⟩⟩, hS.F ht9⟩) hS.2.2 dX12_noBytes_29
  · skip
    refine lv_iload_n hx hb dX12_noBytes_5 rfl (lv_at hl 1 rfl) ?_
    refine lv_bipush (v := 8) hx hb dX12_noBytes_6 (by decide) ?_
    refine lv_icmp_gt (tgt := 24) hx hb dX12_noBytes_8 (by decide) (fun c_8 => ?_) (fun c_8 => ?_)
    · skip
      refine lv_iconst (v := 1) hx hb dX12_noBytes_24 (by decide) ?_
      refine lv_goto (tgt := 29) hx hb dX12_noBytes_25 (by decide) ?_
      have hf9 : 1 = fX12_noBytes x0 x1 := by simp only [fX12_noBytes]; (try simp only [if_neg c_2, if_pos c_8])
      exact W.zret hx hb hr (by decide) (fun t9 ht9 hW9 => ⟨⟨1, (), rfl, hf9, ⟨by rw [ht9]; exact hP, va_K.moved hW9.alike hK, hD⟩⟩, hS.F ht9⟩) hS.2.2 dX12_noBytes_29
    · skip
      refine lv_iload_n hx hb dX12_noBytes_11 rfl (lv_at hl 0 rfl) ?_
      refine lv_if_lt (tgt := 24) hx hb dX12_noBytes_12 (by decide) (fun c_12 => ?_) (fun c_12 => ?_)
      · skip
        refine lv_iconst (v := 1) hx hb dX12_noBytes_24 (by decide) ?_
        refine lv_goto (tgt := 29) hx hb dX12_noBytes_25 (by decide) ?_
        have hf9 : 1 = fX12_noBytes x0 x1 := by simp only [fX12_noBytes]; (try simp only [if_neg c_2, if_neg c_8, if_pos c_12])
        exact W.zret hx hb hr (by decide) (fun t9 ht9 hW9 => ⟨⟨1, (), rfl, hf9, ⟨by rw [ht9]; exact hP, va_K.moved hW9.alike hK, hD⟩⟩, hS.F ht9⟩) hS.2.2 dX12_noBytes_29
      · skip
        refine lv_iload_n hx hb dX12_noBytes_15 rfl (lv_at hl 0 rfl) ?_
        refine lv_sipush (v := 8192) hx hb dX12_noBytes_16 (by decide) ?_
        refine lv_iload_n hx hb dX12_noBytes_19 rfl (lv_at hl 1 rfl) ?_
        refine lv_isub hx hb dX12_noBytes_20 ?_
        refine lv_icmp_le (tgt := 28) hx hb dX12_noBytes_21 (by decide) (fun c_21 => ?_) (fun c_21 => ?_)
        · skip
          refine lv_iconst (v := 0) hx hb dX12_noBytes_28 (by decide) ?_
          have hf9 : 0 = fX12_noBytes x0 x1 := by simp only [fX12_noBytes]; (try simp only [if_neg c_2, if_neg c_8, if_neg c_12, if_pos c_21])
          exact W.zret hx hb hr (by decide) (fun t9 ht9 hW9 => ⟨⟨0, (), rfl, hf9, ⟨by rw [ht9]; exact hP, va_K.moved hW9.alike hK, hD⟩⟩, hS.F ht9⟩) hS.2.2 dX12_noBytes_29
        · skip
          refine lv_iconst (v := 1) hx hb dX12_noBytes_24 (by decide) ?_
          refine lv_goto (tgt := 29) hx hb dX12_noBytes_25 (by decide) ?_
          have hf9 : 1 = fX12_noBytes x0 x1 := by simp only [fX12_noBytes]; (try simp only [if_neg c_2, if_neg c_8, if_neg c_12, if_neg c_21])
          exact W.zret hx hb hr (by decide) (fun t9 ht9 hW9 => ⟨⟨1, (), rfl, hf9, ⟨by rw [ht9]; exact hP, va_K.moved hW9.alike hK, hD⟩⟩, hS.F ht9⟩) hS.2.2 dX12_noBytes_29
theorem hdX12_noBytes : yX12_noBytes.cls = RX12 ∧ yX12_noBytes.cls ≠ "java/lang/invoke/MethodHandle" ∧ yX12_noBytes.cls ≠ "java/lang/invoke/VarHandle" ∧ (parseMethodDescriptor yX12_noBytes.desc).map (fun d => d.parameters.length) = some 2 := by decide +kernel
theorem nb_ok {a n : Int32} (h : fX12_noBytes a n = 0) : inM a n ∧ 1 ≤ n.toInt ∧ n.toInt ≤ 8 := by
  simp only [fX12_noBytes] at h
  by_cases h1 : n < 1
  · rw [if_pos h1] at h; exact absurd h (by decide)
  rw [if_neg h1] at h
  by_cases h2 : 8 < n
  · rw [if_pos h2] at h; exact absurd h (by decide)
  rw [if_neg h2] at h
  by_cases h3 : a < 0
  · rw [if_pos h3] at h; exact absurd h (by decide)
  rw [if_neg h3] at h
  by_cases h4 : a ≤ 8192 - n
  · have g1 := Int32.le_iff_toInt_le.mp (Int32.not_lt.mp h1)
    have g2 := Int32.le_iff_toInt_le.mp (Int32.not_lt.mp h2)
    have g3 := le0 (Int32.not_lt.mp h3)
    have g4 := Int32.le_iff_toInt_le.mp h4
    have k1 : (1 : Int32).toInt = 1 := by decide
    have k8 : (8 : Int32).toInt = 8 := by decide
    have k9 : (8192 : Int32).toInt = 8192 := by decide
    rw [sub_toInt (by omega) (by omega)] at g4
    show (0 ≤ a.toInt ∧ a.toInt + n.toInt ≤ 8192) ∧ 1 ≤ n.toInt ∧ n.toInt ≤ 8
    omega
  · rw [if_neg h4] at h; exact absurd h (by decide)
theorem nb_in {r m a n : Int32} (er : r = fX12_noBytes a n) (em : m = if r = 0 then 0 else 1) (h : m = 0) : inM a n := by
  by_cases h1 : r = 0
  · exact (nb_ok (er ▸ h1)).1
  · rw [if_neg h1] at em; rw [em] at h; exact absurd h (by decide)
noncomputable def fX12_write (x0 : Int32) (x1 : Int64) (x2 : Int32) (v_thrown : Int32) (v_mF : (Nat → Int32)) : (Int32 × (Nat → Int32)) :=
  let r_4 := fX12_noBytes x0 x2
  let m_15 : Int32 := (if r_4 = 0 then (0) else (1))
  if m_15 = 0 then (let u_30 := fX12_store x0 x1 x2 v_mF; (m_15, u_30)) else ((m_15, v_mF))
abbrev wX12_write (cI cB : ClassId) (a_mo a_mem a_mks a_mr a_cnt a_wd a_one a_two a_mmade a_mrest a_old : Nat) (v_thrown : Int32) (v_mask : Int32) (v_key : Int32) (v_wait : Int32) (v_problem : Int32) (v_code : Int32) (v_length : Int32) (v_cond : Int32) (v_masks : Int32) (v_addr : Int32) (v_mwanted : Int32) (v_wrong : Int32) (v_after : Int32) (v_calls : Int32) (v_oneB : Int32) (v_twoB : Int32) (v_mF : (Nat → Int32)) : va_W := [(a_mo, .inr (12, [.int v_thrown, .ref a_mem, .ref a_mks, .ref a_mr, .int v_mask, .int v_key, .int v_wait, .int v_problem, .int v_code, .int v_length, .int v_cond, .int v_masks, .int v_addr, .int v_mwanted, .ref a_cnt, .ref a_wd, .int v_wrong, .int v_after, .int v_calls, .ref a_one, .int v_oneB, .ref a_two, .int v_twoB, .ref a_mmade, .ref a_mrest, .ref a_old])), (a_mem, .inl (cI, 8192, .inl v_mF))]
abbrev rmX12_write : Room := { frames := 1, cells := 0, slots := 0, locals := 25 }
abbrev qX12_write (D : va_G) (cI cB : ClassId) (a_mo a_mem a_mks a_mr a_cnt a_wd a_one a_two a_mmade a_mrest a_old : Nat) (v_thrown : Int32) (v_mask : Int32) (v_key : Int32) (v_wait : Int32) (v_problem : Int32) (v_code : Int32) (v_length : Int32) (v_cond : Int32) (v_masks : Int32) (v_addr : Int32) (v_mwanted : Int32) (v_wrong : Int32) (v_after : Int32) (v_calls : Int32) (v_oneB : Int32) (v_twoB : Int32) (v_mF : (Nat → Int32)) (x0 : Int32) (x1 : Int64) (x2 : Int32) : (Nat → Prop) → Array Value → State → Outcome → State → Prop := fun A9 => va_Qv (fun (u9 : (Int32 × (Nat → Int32))) => u9 = fX12_write x0 x1 x2 v_thrown v_mF) (fun u9 t9 => atW D (TYS cI cB) A9 (wX12_write cI cB a_mo a_mem a_mks a_mr a_cnt a_wd a_one a_two a_mmade a_mrest a_old u9.1 v_mask v_key v_wait v_problem v_code v_length v_cond v_masks v_addr v_mwanted v_wrong v_after v_calls v_oneB v_twoB u9.2) t9) A9
set_option maxHeartbeats 4000000 in
set_option maxRecDepth 100000 in
theorem kX12_write (l : Launch) (D : va_G) (cI cB : ClassId) (a_mo a_mem a_mks a_mr a_cnt a_wd a_one a_two a_mmade a_mrest a_old : Nat) (sz : Nat) (v_thrown : Int32) (v_mask : Int32) (v_key : Int32) (v_wait : Int32) (v_problem : Int32) (v_code : Int32) (v_length : Int32) (v_cond : Int32) (v_masks : Int32) (v_addr : Int32) (v_mwanted : Int32) (v_wrong : Int32) (v_after : Int32) (v_calls : Int32) (v_oneB : Int32) (v_twoB : Int32) (v_mF : (Nat → Int32)) (x0 : Int32) (x1 : Int64) (x2 : Int32) : MetW l yX12_write (WK yX12_write cX12_write 5 none) rmX12_write D (TYS cI cB) (wX12_write cI cB a_mo a_mem a_mks a_mr a_cnt a_wd a_one a_two a_mmade a_mrest a_old v_thrown v_mask v_key v_wait v_problem v_code v_length v_cond v_masks v_addr v_mwanted v_wrong v_after v_calls v_oneB v_twoB v_mF) sz [.ref a_mo, .int x0, .long x1, .int x2] (qX12_write D cI cB a_mo a_mem a_mks a_mr a_cnt a_wd a_one a_two a_mmade a_mrest a_old v_thrown v_mask v_key v_wait v_problem v_code v_length v_cond v_masks v_addr v_mwanted v_wrong v_after v_calls v_oneB v_twoB v_mF x0 x1 x2) 0 0 := by
  refine met_std (by decide) rfl (Nat.le_of_ble_eq_true rfl) ?_
  intro p e s m below meth c A ls H hx hb hr hml hown hts hlocks hA hP hK hD hS hNW hl
  have hl : lv_has ls 5 [(0, .ref a_mo), (1, .int x0), (2, .long x1), (4, .int x2)] := hl
  have q_0 := hts _ (List.mem_cons_of_mem _ wd_788)
  refine lv_aload_n hx hb dX12_write_0 rfl (lv_at hl 0 rfl) ?_
  refine lv_iload_n hx hb dX12_write_1 rfl (lv_at hl 1 rfl) ?_
  refine lv_iload hx hb dX12_write_2 (lv_at hl 3 rfl) ?_
  have hPc : va_P D vwCl (wX12_noBytes cI cB  ) H := hP.sub [] rfl
  have hDc : va_D A (wX12_noBytes cI cB  ) := hD.sub [] (by decide) rfl
  have hFc := va_free (wc := (wX12_noBytes cI cB  )) hD hS hA [] rfl
  refine va_calli (va_runS (As := [.int x0, .int x2]) (rest := [.ref a_mo]) ⟨hx, hb, hml, hown, hts⟩ (kX12_noBytes l D cI cB  H.size  x0 x2) (va_cwS 2 hts (gd_S wd_824 wd_825 wd_807 wd_822) rfl rfl rfl hdX12_noBytes.2 ⟨Nat.le_of_ble_eq_true rfl, Nat.le_of_ble_eq_true rfl⟩) (preS_std hPc hK hDc hNW) rfl rfl hl.1 rfl (lv_room (Nat.le_of_ble_eq_true rfl)) dX12_write_4 ⟨Nat.zero_le _, Nat.zero_le _⟩) hS (fun q _ h => hFc q h) hFc (fun r_4 u_4 t9 H1 locs ht9 hvm9 hw9 hB9 hz9 hk9 hS => ?_)
  have er_4 : r_4 = fX12_noBytes x0 x2 := hw9
  have zr_4 : r_4 = 0 ∨ r_4 = 1 := by rw [er_4]; exact zX12_noBytes _ _
  obtain ⟨hP, hD⟩ := back_std (w1 := (wX12_noBytes cI cB  )) (w2 := (wX12_write cI cB a_mo a_mem a_mks a_mr a_cnt a_wd a_one a_two a_mmade a_mrest a_old v_thrown v_mask v_key v_wait v_problem v_code v_length v_cond v_masks v_addr v_mwanted v_wrong v_after v_calls v_oneB v_twoB v_mF)) (wr := [(a_mo, .inr (12, [.int v_thrown, .ref a_mem, .ref a_mks, .ref a_mr, .int v_mask, .int v_key, .int v_wait, .int v_problem, .int v_code, .int v_length, .int v_cond, .int v_masks, .int v_addr, .int v_mwanted, .ref a_cnt, .ref a_wd, .int v_wrong, .int v_after, .int v_calls, .ref a_one, .int v_oneB, .ref a_two, .int v_twoB, .ref a_mmade, .ref a_mrest, .ref a_old])), (a_mem, .inl (cI, 8192, .inl v_mF))]) hP hD [] [0, 1] [0, 1] rfl rfl (by decide) (by decide) hk9 hFc hB9 ht9 (by decide) rfl
  clear hB9 hk9 hz9 hvm9 ht9 hFc hPc hDc
  generalize H1 = H at hP hS ⊢
  have J_15 : ∀ (m_15 : Int32), m_15 = (if r_4 = 0 then (0) else (1)) → ∀ (H : Heap) (locs : List Loc), va_P D vwCl (wX12_write cI cB a_mo a_mem a_mks a_mr a_cnt a_wd a_one a_two a_mmade a_mrest a_old v_thrown v_mask v_key v_wait v_problem v_code v_length v_cond v_masks v_addr v_mwanted v_wrong v_after v_calls v_oneB v_twoB v_mF) H → va_D A (wX12_write cI cB a_mo a_mem a_mks a_mr a_cnt a_wd a_one a_two a_mmade a_mrest a_old v_thrown v_mask v_key v_wait v_problem v_code v_length v_cond v_masks v_addr v_mwanted v_wrong v_after v_calls v_oneB v_twoB v_mF) → va_S A s.heap H locs → ∀ (ls : Array Slot), lv_has ls 5 [(0, .ref a_mo), (1, .int x0), (2, .long x1), (4, .int x2)] → W p l e rmX12_write s m ([.ref a_mo, .int x0, .long x1, .int x2] : List Value).toArray below meth c H locs 0 0 (MQ below (qX12_write D cI cB a_mo a_mem a_mks a_mr a_cnt a_wd a_one a_two a_mmade a_mrest a_old v_thrown v_mask v_key v_wait v_problem v_code v_length v_cond v_masks v_addr v_mwanted v_wrong v_after v_calls v_oneB v_twoB v_mF x0 x1 x2 A) ([.ref a_mo, .int x0, .long x1, .int x2] : List Value).toArray s 0 0 A) (F0 m 15 ls [.int m_15, .ref a_mo]) := by
    intro m_15 em_15 H locs hP hD hS ls hl
    try dsimp only at em_15
    have zm_15_0 : m_15 = 0 ∨ m_15 = 1 := by rw [em_15]; (try dsimp only); (repeat' split) <;> first | exact Or.inl rfl | exact Or.inr rfl
    refine va_put (D := D) (ci := 12) (v := .int m_15) (ty := .int) (C := RX12) (T := TX12) (N := 26) hx hb hts in_X12 tyX12 tyX12_ok nmX12 hown hK hP hD hS 0 rfl rfl 0 (by decide) q_0 (fun _ h9 => h9) rfl (by decide +kernel) rfl rfl (Nat.le_of_ble_eq_true rfl) dX12_write_15 (fun H locs hP hD hS => ?_)
    have hP : va_P D vwCl (wX12_write cI cB a_mo a_mem a_mks a_mr a_cnt a_wd a_one a_two a_mmade a_mrest a_old m_15 v_mask v_key v_wait v_problem v_code v_length v_cond v_masks v_addr v_mwanted v_wrong v_after v_calls v_oneB v_twoB v_mF) H := hP
    have hD : va_D A (wX12_write cI cB a_mo a_mem a_mks a_mr a_cnt a_wd a_one a_two a_mmade a_mrest a_old m_15 v_mask v_key v_wait v_problem v_code v_length v_cond v_masks v_addr v_mwanted v_wrong v_after v_calls v_oneB v_twoB v_mF) := hD
    refine lv_aload_n hx hb dX12_write_18 rfl (lv_at hl 0 rfl) ?_
    refine va_get (D := D) (ci := 12) (v := .int m_15) (C := RX12) (T := TX12) (N := 26) hx hb hts in_X12 hown hK hP 0 rfl rfl 0 (by decide) q_0 (fun _ h9 => h9) rfl dX12_write_19 ?_
    refine lv_if_ne (tgt := 33) hx hb dX12_write_22 (by decide) (fun c_22 => ?_) (fun c_22 => ?_)
    · skip
      have hf9 : (m_15, v_mF) = fX12_write x0 x1 x2 v_thrown v_mF := by simp only [fX12_write, ← er_4, ← em_15]; (try simp only [if_neg c_22])
      exact W.vret hx hb hr (fun t9 ht9 hW9 => ⟨⟨(m_15, v_mF), rfl, hf9, ⟨by rw [ht9]; exact hP, va_K.moved hW9.alike hK, hD⟩⟩, hS.F ht9⟩) hS.2.2 dX12_write_33
    · skip
      refine lv_aload_n hx hb dX12_write_25 rfl (lv_at hl 0 rfl) ?_
      refine lv_iload_n hx hb dX12_write_26 rfl (lv_at hl 1 rfl) ?_
      refine lv_lload_n hx hb dX12_write_27 rfl (lv_at hl 2 rfl) ?_
      refine lv_iload hx hb dX12_write_28 (lv_at hl 3 rfl) ?_
      have hPc : va_P D vwCl (wX12_store cI cB a_mo a_mem a_mks a_mr a_cnt a_wd a_one a_two a_mmade a_mrest a_old m_15 v_mask v_key v_wait v_problem v_code v_length v_cond v_masks v_addr v_mwanted v_wrong v_after v_calls v_oneB v_twoB v_mF) H := hP.sub [0, 1] rfl
      have hDc : va_D A (wX12_store cI cB a_mo a_mem a_mks a_mr a_cnt a_wd a_one a_two a_mmade a_mrest a_old m_15 v_mask v_key v_wait v_problem v_code v_length v_cond v_masks v_addr v_mwanted v_wrong v_after v_calls v_oneB v_twoB v_mF) := hD.sub [0, 1] (by decide) rfl
      have hFc := va_free (wc := (wX12_store cI cB a_mo a_mem a_mks a_mr a_cnt a_wd a_one a_two a_mmade a_mrest a_old m_15 v_mask v_key v_wait v_problem v_code v_length v_cond v_masks v_addr v_mwanted v_wrong v_after v_calls v_oneB v_twoB v_mF)) hD hS hA [0, 1] rfl
      refine va_callv (va_runV (As := [.int x0, .long x1, .int x2]) (rest := []) ⟨hx, hb, hml, hown, hts⟩ (kX12_store l D cI cB a_mo a_mem a_mks a_mr a_cnt a_wd a_one a_two a_mmade a_mrest a_old H.size m_15 v_mask v_key v_wait v_problem v_code v_length v_cond v_masks v_addr v_mwanted v_wrong v_after v_calls v_oneB v_twoB v_mF x0 x1 x2 (nb_in er_4 em_15 c_22)) (cwV 3 hts (gd_V wd_826 wd_827 wd_828 wd_807 wd_820) rfl rfl rfl hdX12_store ⟨Nat.le_of_ble_eq_true rfl, Nat.le_of_ble_eq_true rfl⟩) (preV_std (ci := 12) (q0 := 0) hPc hK hDc hNW rfl rfl) rfl rfl hl.1 rfl (lv_room (Nat.le_of_ble_eq_true rfl)) dX12_write_30 ⟨Nat.zero_le _, Nat.zero_le _⟩) hS (fun q _ h => hFc q h) hFc (fun u_30 t9 H1 locs ht9 hvm9 hw9 hB9 hz9 hk9 hS => ?_)
      have eu_30 : u_30 = fX12_store x0 x1 x2 v_mF := hw9
      obtain ⟨hP, hD⟩ := back_std (w1 := (wX12_store cI cB a_mo a_mem a_mks a_mr a_cnt a_wd a_one a_two a_mmade a_mrest a_old m_15 v_mask v_key v_wait v_problem v_code v_length v_cond v_masks v_addr v_mwanted v_wrong v_after v_calls v_oneB v_twoB u_30)) (w2 := (wX12_write cI cB a_mo a_mem a_mks a_mr a_cnt a_wd a_one a_two a_mmade a_mrest a_old m_15 v_mask v_key v_wait v_problem v_code v_length v_cond v_masks v_addr v_mwanted v_wrong v_after v_calls v_oneB v_twoB u_30)) (wr := []) hP hD [0, 1] [] [0, 1] rfl rfl (by decide) (by decide) hk9 hFc hB9 ht9 (by decide) rfl
      clear hB9 hk9 hz9 hvm9 ht9 hFc hPc hDc
      generalize H1 = H at hP hS ⊢
      have hf9 : (m_15, u_30) = fX12_write x0 x1 x2 v_thrown v_mF := by simp only [fX12_write, ← er_4, ← em_15, ← eu_30]; (try simp only [if_pos c_22])
      exact W.vret hx hb hr (fun t9 ht9 hW9 => ⟨⟨(m_15, u_30), rfl, hf9, ⟨by rw [ht9]; exact hP, va_K.moved hW9.alike hK, hD⟩⟩, hS.F ht9⟩) hS.2.2 dX12_write_33
  refine lv_if_eq (tgt := 14) hx hb dX12_write_7 (by decide) (fun c_7 => ?_) (fun c_7 => ?_)
  · skip
    refine lv_iconst (v := 0) hx hb dX12_write_14 (by decide) ?_
    exact J_15 0 (by (try simp only [if_pos c_7])) _ _ hP hD hS ls (lv_sub hl [0, 1, 2, 3] rfl)
  · skip
    refine lv_iconst (v := 1) hx hb dX12_write_10 (by decide) ?_
    refine lv_goto (tgt := 15) hx hb dX12_write_11 (by decide) ?_
    exact J_15 1 (by (try simp only [if_neg c_7])) _ _ hP hD hS ls (lv_sub hl [0, 1, 2, 3] rfl)
theorem hdX12_write : yX12_write.cls = RX12 ∧ yX12_write.cls ≠ "java/lang/invoke/MethodHandle" ∧ yX12_write.cls ≠ "java/lang/invoke/VarHandle" ∧ (parseMethodDescriptor yX12_write.desc).map (fun d => d.parameters.length) = some 3 := by decide +kernel
noncomputable def fX12_read (x0 : Int32) (x1 : Int32) (v_thrown : Int32) (v_mF : (Nat → Int32)) : (Int64 × Int32) :=
  let r_3 := fX12_noBytes x0 x1
  let m_14 : Int32 := (if r_3 = 0 then (0) else (1))
  if m_14 ≤ 0 then (let r_31 := fX12_fetch x0 x1 v_mF; (r_31, m_14)) else ((0, m_14))
abbrev wX12_read (cI cB : ClassId) (a_mo a_mem a_mks a_mr a_cnt a_wd a_one a_two a_mmade a_mrest a_old : Nat) (v_thrown : Int32) (v_mask : Int32) (v_key : Int32) (v_wait : Int32) (v_problem : Int32) (v_code : Int32) (v_length : Int32) (v_cond : Int32) (v_masks : Int32) (v_addr : Int32) (v_mwanted : Int32) (v_wrong : Int32) (v_after : Int32) (v_calls : Int32) (v_oneB : Int32) (v_twoB : Int32) (v_mF : (Nat → Int32)) : va_W := [(a_mo, .inr (12, [.int v_thrown, .ref a_mem, .ref a_mks, .ref a_mr, .int v_mask, .int v_key, .int v_wait, .int v_problem, .int v_code, .int v_length, .int v_cond, .int v_masks, .int v_addr, .int v_mwanted, .ref a_cnt, .ref a_wd, .int v_wrong, .int v_after, .int v_calls, .ref a_one, .int v_oneB, .ref a_two, .int v_twoB, .ref a_mmade, .ref a_mrest, .ref a_old])), (a_mem, .inl (cI, 8192, .inl v_mF))]
abbrev rmX12_read : Room := { frames := 1, cells := 0, slots := 0, locals := 25 }
abbrev qX12_read (D : va_G) (cI cB : ClassId) (a_mo a_mem a_mks a_mr a_cnt a_wd a_one a_two a_mmade a_mrest a_old : Nat) (v_thrown : Int32) (v_mask : Int32) (v_key : Int32) (v_wait : Int32) (v_problem : Int32) (v_code : Int32) (v_length : Int32) (v_cond : Int32) (v_masks : Int32) (v_addr : Int32) (v_mwanted : Int32) (v_wrong : Int32) (v_after : Int32) (v_calls : Int32) (v_oneB : Int32) (v_twoB : Int32) (v_mF : (Nat → Int32)) (x0 : Int32) (x1 : Int32) : (Nat → Prop) → Array Value → State → Outcome → State → Prop := fun A9 => va_Ql (fun (r9 : Int64) (u9 : Int32) => r9 = (fX12_read x0 x1 v_thrown v_mF).1 ∧ u9 = (fX12_read x0 x1 v_thrown v_mF).2) (fun u9 t9 => atW D (TYS cI cB) A9 (wX12_read cI cB a_mo a_mem a_mks a_mr a_cnt a_wd a_one a_two a_mmade a_mrest a_old u9 v_mask v_key v_wait v_problem v_code v_length v_cond v_masks v_addr v_mwanted v_wrong v_after v_calls v_oneB v_twoB v_mF) t9) A9
set_option maxHeartbeats 4000000 in
set_option maxRecDepth 100000 in
theorem kX12_read (l : Launch) (D : va_G) (cI cB : ClassId) (a_mo a_mem a_mks a_mr a_cnt a_wd a_one a_two a_mmade a_mrest a_old : Nat) (sz : Nat) (v_thrown : Int32) (v_mask : Int32) (v_key : Int32) (v_wait : Int32) (v_problem : Int32) (v_code : Int32) (v_length : Int32) (v_cond : Int32) (v_masks : Int32) (v_addr : Int32) (v_mwanted : Int32) (v_wrong : Int32) (v_after : Int32) (v_calls : Int32) (v_oneB : Int32) (v_twoB : Int32) (v_mF : (Nat → Int32)) (x0 : Int32) (x1 : Int32) : MetW l yX12_read (WK yX12_read cX12_read 3 (some .long)) rmX12_read D (TYS cI cB) (wX12_read cI cB a_mo a_mem a_mks a_mr a_cnt a_wd a_one a_two a_mmade a_mrest a_old v_thrown v_mask v_key v_wait v_problem v_code v_length v_cond v_masks v_addr v_mwanted v_wrong v_after v_calls v_oneB v_twoB v_mF) sz [.ref a_mo, .int x0, .int x1] (qX12_read D cI cB a_mo a_mem a_mks a_mr a_cnt a_wd a_one a_two a_mmade a_mrest a_old v_thrown v_mask v_key v_wait v_problem v_code v_length v_cond v_masks v_addr v_mwanted v_wrong v_after v_calls v_oneB v_twoB v_mF x0 x1) 0 0 := by
  refine met_std (by decide) rfl (Nat.le_of_ble_eq_true rfl) ?_
  intro p e s m below meth c A ls H hx hb hr hml hown hts hlocks hA hP hK hD hS hNW hl
  have hl : lv_has ls 3 [(0, .ref a_mo), (1, .int x0), (2, .int x1)] := hl
  have q_0 := hts _ (List.mem_cons_of_mem _ wd_788)
  refine lv_aload_n hx hb dX12_read_0 rfl (lv_at hl 0 rfl) ?_
  refine lv_iload_n hx hb dX12_read_1 rfl (lv_at hl 1 rfl) ?_
  refine lv_iload_n hx hb dX12_read_2 rfl (lv_at hl 2 rfl) ?_
  have hPc : va_P D vwCl (wX12_noBytes cI cB  ) H := hP.sub [] rfl
  have hDc : va_D A (wX12_noBytes cI cB  ) := hD.sub [] (by decide) rfl
  have hFc := va_free (wc := (wX12_noBytes cI cB  )) hD hS hA [] rfl
  refine va_calli (va_runS (As := [.int x0, .int x1]) (rest := [.ref a_mo]) ⟨hx, hb, hml, hown, hts⟩ (kX12_noBytes l D cI cB  H.size  x0 x1) (va_cwS 2 hts (gd_S wd_824 wd_825 wd_807 wd_822) rfl rfl rfl hdX12_noBytes.2 ⟨Nat.le_of_ble_eq_true rfl, Nat.le_of_ble_eq_true rfl⟩) (preS_std hPc hK hDc hNW) rfl rfl hl.1 rfl (lv_room (Nat.le_of_ble_eq_true rfl)) dX12_read_3 ⟨Nat.zero_le _, Nat.zero_le _⟩) hS (fun q _ h => hFc q h) hFc (fun r_3 u_3 t9 H1 locs ht9 hvm9 hw9 hB9 hz9 hk9 hS => ?_)
  have er_3 : r_3 = fX12_noBytes x0 x1 := hw9
  have zr_3 : r_3 = 0 ∨ r_3 = 1 := by rw [er_3]; exact zX12_noBytes _ _
  obtain ⟨hP, hD⟩ := back_std (w1 := (wX12_noBytes cI cB  )) (w2 := (wX12_read cI cB a_mo a_mem a_mks a_mr a_cnt a_wd a_one a_two a_mmade a_mrest a_old v_thrown v_mask v_key v_wait v_problem v_code v_length v_cond v_masks v_addr v_mwanted v_wrong v_after v_calls v_oneB v_twoB v_mF)) (wr := [(a_mo, .inr (12, [.int v_thrown, .ref a_mem, .ref a_mks, .ref a_mr, .int v_mask, .int v_key, .int v_wait, .int v_problem, .int v_code, .int v_length, .int v_cond, .int v_masks, .int v_addr, .int v_mwanted, .ref a_cnt, .ref a_wd, .int v_wrong, .int v_after, .int v_calls, .ref a_one, .int v_oneB, .ref a_two, .int v_twoB, .ref a_mmade, .ref a_mrest, .ref a_old])), (a_mem, .inl (cI, 8192, .inl v_mF))]) hP hD [] [0, 1] [0, 1] rfl rfl (by decide) (by decide) hk9 hFc hB9 ht9 (by decide) rfl
  clear hB9 hk9 hz9 hvm9 ht9 hFc hPc hDc
  generalize H1 = H at hP hS ⊢
  have J_14 : ∀ (m_14 : Int32), m_14 = (if r_3 = 0 then (0) else (1)) → ∀ (H : Heap) (locs : List Loc), va_P D vwCl (wX12_read cI cB a_mo a_mem a_mks a_mr a_cnt a_wd a_one a_two a_mmade a_mrest a_old v_thrown v_mask v_key v_wait v_problem v_code v_length v_cond v_masks v_addr v_mwanted v_wrong v_after v_calls v_oneB v_twoB v_mF) H → va_D A (wX12_read cI cB a_mo a_mem a_mks a_mr a_cnt a_wd a_one a_two a_mmade a_mrest a_old v_thrown v_mask v_key v_wait v_problem v_code v_length v_cond v_masks v_addr v_mwanted v_wrong v_after v_calls v_oneB v_twoB v_mF) → va_S A s.heap H locs → ∀ (ls : Array Slot), lv_has ls 3 [(0, .ref a_mo), (1, .int x0), (2, .int x1)] → W p l e rmX12_read s m ([.ref a_mo, .int x0, .int x1] : List Value).toArray below meth c H locs 0 0 (MQ below (qX12_read D cI cB a_mo a_mem a_mks a_mr a_cnt a_wd a_one a_two a_mmade a_mrest a_old v_thrown v_mask v_key v_wait v_problem v_code v_length v_cond v_masks v_addr v_mwanted v_wrong v_after v_calls v_oneB v_twoB v_mF x0 x1 A) ([.ref a_mo, .int x0, .int x1] : List Value).toArray s 0 0 A) (F0 m 14 ls [.int m_14, .ref a_mo]) := by
    intro m_14 em_14 H locs hP hD hS ls hl
    try dsimp only at em_14
    have zm_14_0 : m_14 = 0 ∨ m_14 = 1 := by rw [em_14]; (try dsimp only); (repeat' split) <;> first | exact Or.inl rfl | exact Or.inr rfl
    refine va_put (D := D) (ci := 12) (v := .int m_14) (ty := .int) (C := RX12) (T := TX12) (N := 26) hx hb hts in_X12 tyX12 tyX12_ok nmX12 hown hK hP hD hS 0 rfl rfl 0 (by decide) q_0 (fun _ h9 => h9) rfl (by decide +kernel) rfl rfl (Nat.le_of_ble_eq_true rfl) dX12_read_14 (fun H locs hP hD hS => ?_)
    have hP : va_P D vwCl (wX12_read cI cB a_mo a_mem a_mks a_mr a_cnt a_wd a_one a_two a_mmade a_mrest a_old m_14 v_mask v_key v_wait v_problem v_code v_length v_cond v_masks v_addr v_mwanted v_wrong v_after v_calls v_oneB v_twoB v_mF) H := hP
    have hD : va_D A (wX12_read cI cB a_mo a_mem a_mks a_mr a_cnt a_wd a_one a_two a_mmade a_mrest a_old m_14 v_mask v_key v_wait v_problem v_code v_length v_cond v_masks v_addr v_mwanted v_wrong v_after v_calls v_oneB v_twoB v_mF) := hD
    refine lv_aload_n hx hb dX12_read_17 rfl (lv_at hl 0 rfl) ?_
    refine va_get (D := D) (ci := 12) (v := .int m_14) (C := RX12) (T := TX12) (N := 26) hx hb hts in_X12 hown hK hP 0 rfl rfl 0 (by decide) q_0 (fun _ h9 => h9) rfl dX12_read_18 ?_
    refine lv_if_le (tgt := 28) hx hb dX12_read_21 (by decide) (fun c_21 => ?_) (fun c_21 => ?_)
    · skip
      refine lv_aload_n hx hb dX12_read_28 rfl (lv_at hl 0 rfl) ?_
      refine lv_iload_n hx hb dX12_read_29 rfl (lv_at hl 1 rfl) ?_
      refine lv_iload_n hx hb dX12_read_30 rfl (lv_at hl 2 rfl) ?_
      have hPc : va_P D vwCl (wX12_fetch cI cB a_mo a_mem a_mks a_mr a_cnt a_wd a_one a_two a_mmade a_mrest a_old m_14 v_mask v_key v_wait v_problem v_code v_length v_cond v_masks v_addr v_mwanted v_wrong v_after v_calls v_oneB v_twoB v_mF) H := hP.sub [0, 1] rfl
      have hDc : va_D A (wX12_fetch cI cB a_mo a_mem a_mks a_mr a_cnt a_wd a_one a_two a_mmade a_mrest a_old m_14 v_mask v_key v_wait v_problem v_code v_length v_cond v_masks v_addr v_mwanted v_wrong v_after v_calls v_oneB v_twoB v_mF) := hD.sub [0, 1] (by decide) rfl
      have hFc := va_free (wc := (wX12_fetch cI cB a_mo a_mem a_mks a_mr a_cnt a_wd a_one a_two a_mmade a_mrest a_old m_14 v_mask v_key v_wait v_problem v_code v_length v_cond v_masks v_addr v_mwanted v_wrong v_after v_calls v_oneB v_twoB v_mF)) hD hS hA [0, 1] rfl
      refine va_calll (va_runV (As := [.int x0, .int x1]) (rest := []) ⟨hx, hb, hml, hown, hts⟩ (kX12_fetch l D cI cB a_mo a_mem a_mks a_mr a_cnt a_wd a_one a_two a_mmade a_mrest a_old H.size m_14 v_mask v_key v_wait v_problem v_code v_length v_cond v_masks v_addr v_mwanted v_wrong v_after v_calls v_oneB v_twoB v_mF x0 x1 (nb_in er_3 em_14 (by have h9 := c_21; rw [em_14] at h9 ⊢; revert h9; split <;> decide))) (cwV 2 hts (gd_V wd_830 wd_831 wd_832 wd_807 wd_819) rfl rfl rfl hdX12_fetch ⟨Nat.le_of_ble_eq_true rfl, Nat.le_of_ble_eq_true rfl⟩) (preV_std (ci := 12) (q0 := 0) hPc hK hDc hNW rfl rfl) rfl rfl hl.1 rfl (lv_room (Nat.le_of_ble_eq_true rfl)) dX12_read_31 ⟨Nat.zero_le _, Nat.zero_le _⟩) hS (fun q _ h => hFc q h) hFc (fun r_31 u_31 t9 H1 locs ht9 hvm9 hw9 hB9 hz9 hk9 hS => ?_)
      have er_31 : r_31 = fX12_fetch x0 x1 v_mF := hw9
      obtain ⟨hP, hD⟩ := back_std (w1 := (wX12_fetch cI cB a_mo a_mem a_mks a_mr a_cnt a_wd a_one a_two a_mmade a_mrest a_old m_14 v_mask v_key v_wait v_problem v_code v_length v_cond v_masks v_addr v_mwanted v_wrong v_after v_calls v_oneB v_twoB v_mF)) (w2 := (wX12_read cI cB a_mo a_mem a_mks a_mr a_cnt a_wd a_one a_two a_mmade a_mrest a_old m_14 v_mask v_key v_wait v_problem v_code v_length v_cond v_masks v_addr v_mwanted v_wrong v_after v_calls v_oneB v_twoB v_mF)) (wr := []) hP hD [0, 1] [] [0, 1] rfl rfl (by decide) (by decide) hk9 hFc hB9 ht9 (by decide) rfl
      clear hB9 hk9 hz9 hvm9 ht9 hFc hPc hDc
      generalize H1 = H at hP hS ⊢
      have hf9 : (r_31, m_14) = fX12_read x0 x1 v_thrown v_mF := by simp only [fX12_read, ← er_3, ← em_14, ← er_31]; (try simp only [if_pos c_21])
      exact W.lret hx hb hr (fun t9 ht9 hW9 => ⟨⟨r_31, m_14, rfl, ⟨by rw [← hf9], by rw [← hf9]⟩, ⟨by rw [ht9]; exact hP, va_K.moved hW9.alike hK, hD⟩⟩, hS.F ht9⟩) hS.2.2 dX12_read_34
    · skip
      refine lv_lconst (v := 0) hx hb dX12_read_24 (by decide) ?_
      refine lv_goto (tgt := 34) hx hb dX12_read_25 (by decide) ?_
      have hf9 : (0, m_14) = fX12_read x0 x1 v_thrown v_mF := by simp only [fX12_read, ← er_3, ← em_14]; (try simp only [if_neg c_21])
      exact W.lret hx hb hr (fun t9 ht9 hW9 => ⟨⟨0, m_14, rfl, ⟨by rw [← hf9], by rw [← hf9]⟩, ⟨by rw [ht9]; exact hP, va_K.moved hW9.alike hK, hD⟩⟩, hS.F ht9⟩) hS.2.2 dX12_read_34
  refine lv_if_eq (tgt := 13) hx hb dX12_read_6 (by decide) (fun c_6 => ?_) (fun c_6 => ?_)
  · skip
    refine lv_iconst (v := 0) hx hb dX12_read_13 (by decide) ?_
    exact J_14 0 (by (try simp only [if_pos c_6])) _ _ hP hD hS ls (lv_sub hl [0, 1, 2] rfl)
  · skip
    refine lv_iconst (v := 1) hx hb dX12_read_9 (by decide) ?_
    refine lv_goto (tgt := 14) hx hb dX12_read_10 (by decide) ?_
    exact J_14 1 (by (try simp only [if_neg c_6])) _ _ hP hD hS ls (lv_sub hl [0, 1, 2] rfl)
theorem hdX12_read : yX12_read.cls = RX12 ∧ yX12_read.cls ≠ "java/lang/invoke/MethodHandle" ∧ yX12_read.cls ≠ "java/lang/invoke/VarHandle" ∧ (parseMethodDescriptor yX12_read.desc).map (fun d => d.parameters.length) = some 2 := by decide +kernel
noncomputable def fX12_key (x0 : Int32) (x1 : Int32) (v_thrown : Int32) (v_mkF : (Nat → Int32)) : (Int32 × (Int32 × (Nat → Int32))) :=
  let m_25 : Int32 := (if x0 < 0 then (1) else (if 3 < x0 then (1) else (if x1 < 0 then (1) else (if x1 ≤ 31 then (0) else (1)))))
  if m_25 ≤ 0 then (let x_43 := (v_mkF (x0 : Int32).toNatClampNeg); let f_50 := upd v_mkF (x0 : Int32).toNatClampNeg (x1); (x_43, (m_25, f_50))) else ((0, (m_25, v_mkF)))
abbrev wX12_key (cI cB : ClassId) (a_mo a_mem a_mks a_mr a_cnt a_wd a_one a_two a_mmade a_mrest a_old : Nat) (v_thrown : Int32) (v_mask : Int32) (v_key : Int32) (v_wait : Int32) (v_problem : Int32) (v_code : Int32) (v_length : Int32) (v_cond : Int32) (v_masks : Int32) (v_addr : Int32) (v_mwanted : Int32) (v_wrong : Int32) (v_after : Int32) (v_calls : Int32) (v_oneB : Int32) (v_twoB : Int32) (v_mkF : (Nat → Int32)) : va_W := [(a_mo, .inr (12, [.int v_thrown, .ref a_mem, .ref a_mks, .ref a_mr, .int v_mask, .int v_key, .int v_wait, .int v_problem, .int v_code, .int v_length, .int v_cond, .int v_masks, .int v_addr, .int v_mwanted, .ref a_cnt, .ref a_wd, .int v_wrong, .int v_after, .int v_calls, .ref a_one, .int v_oneB, .ref a_two, .int v_twoB, .ref a_mmade, .ref a_mrest, .ref a_old])), (a_mks, .inl (cI, 4, .inl v_mkF))]
abbrev rmX12_key : Room := { frames := 0, cells := 0, slots := 0, locals := 0 }
abbrev qX12_key (D : va_G) (cI cB : ClassId) (a_mo a_mem a_mks a_mr a_cnt a_wd a_one a_two a_mmade a_mrest a_old : Nat) (v_thrown : Int32) (v_mask : Int32) (v_key : Int32) (v_wait : Int32) (v_problem : Int32) (v_code : Int32) (v_length : Int32) (v_cond : Int32) (v_masks : Int32) (v_addr : Int32) (v_mwanted : Int32) (v_wrong : Int32) (v_after : Int32) (v_calls : Int32) (v_oneB : Int32) (v_twoB : Int32) (v_mkF : (Nat → Int32)) (x0 : Int32) (x1 : Int32) : (Nat → Prop) → Array Value → State → Outcome → State → Prop := fun A9 => va_Qi (fun (r9 : Int32) (u9 : (Int32 × (Nat → Int32))) => r9 = (fX12_key x0 x1 v_thrown v_mkF).1 ∧ u9 = (fX12_key x0 x1 v_thrown v_mkF).2) (fun u9 t9 => atW D (TYS cI cB) A9 (wX12_key cI cB a_mo a_mem a_mks a_mr a_cnt a_wd a_one a_two a_mmade a_mrest a_old u9.1 v_mask v_key v_wait v_problem v_code v_length v_cond v_masks v_addr v_mwanted v_wrong v_after v_calls v_oneB v_twoB u9.2) t9) A9
set_option maxHeartbeats 4000000 in
set_option maxRecDepth 100000 in
theorem kX12_key (l : Launch) (D : va_G) (cI cB : ClassId) (a_mo a_mem a_mks a_mr a_cnt a_wd a_one a_two a_mmade a_mrest a_old : Nat) (sz : Nat) (v_thrown : Int32) (v_mask : Int32) (v_key : Int32) (v_wait : Int32) (v_problem : Int32) (v_code : Int32) (v_length : Int32) (v_cond : Int32) (v_masks : Int32) (v_addr : Int32) (v_mwanted : Int32) (v_wrong : Int32) (v_after : Int32) (v_calls : Int32) (v_oneB : Int32) (v_twoB : Int32) (v_mkF : (Nat → Int32)) (x0 : Int32) (x1 : Int32) : MetW l yX12_key (WK yX12_key cX12_key 4 (some .int)) rmX12_key D (TYS cI cB) (wX12_key cI cB a_mo a_mem a_mks a_mr a_cnt a_wd a_one a_two a_mmade a_mrest a_old v_thrown v_mask v_key v_wait v_problem v_code v_length v_cond v_masks v_addr v_mwanted v_wrong v_after v_calls v_oneB v_twoB v_mkF) sz [.ref a_mo, .int x0, .int x1] (qX12_key D cI cB a_mo a_mem a_mks a_mr a_cnt a_wd a_one a_two a_mmade a_mrest a_old v_thrown v_mask v_key v_wait v_problem v_code v_length v_cond v_masks v_addr v_mwanted v_wrong v_after v_calls v_oneB v_twoB v_mkF x0 x1) 0 0 := by
  refine met_std (by decide) rfl (Nat.le_of_ble_eq_true rfl) ?_
  intro p e s m below meth c A ls H hx hb hr hml hown hts hlocks hA hP hK hD hS hNW hl
  have hl : lv_has ls 4 [(0, .ref a_mo), (1, .int x0), (2, .int x1)] := hl
  have q_0 := hts _ (List.mem_cons_of_mem _ wd_788)
  have q_1 := hts _ (List.mem_cons_of_mem _ wd_778)
  refine lv_aload_n hx hb dX12_key_0 rfl (lv_at hl 0 rfl) ?_
  refine lv_iload_n hx hb dX12_key_1 rfl (lv_at hl 1 rfl) ?_
  have J_25 : ∀ (m_25 : Int32), m_25 = (if x0 < 0 then (1) else (if 3 < x0 then (1) else (if x1 < 0 then (1) else (if x1 ≤ 31 then (0) else (1))))) → ∀ (H : Heap) (locs : List Loc), va_P D vwCl (wX12_key cI cB a_mo a_mem a_mks a_mr a_cnt a_wd a_one a_two a_mmade a_mrest a_old v_thrown v_mask v_key v_wait v_problem v_code v_length v_cond v_masks v_addr v_mwanted v_wrong v_after v_calls v_oneB v_twoB v_mkF) H → va_D A (wX12_key cI cB a_mo a_mem a_mks a_mr a_cnt a_wd a_one a_two a_mmade a_mrest a_old v_thrown v_mask v_key v_wait v_problem v_code v_length v_cond v_masks v_addr v_mwanted v_wrong v_after v_calls v_oneB v_twoB v_mkF) → va_S A s.heap H locs → ∀ (ls : Array Slot), lv_has ls 4 [(0, .ref a_mo), (1, .int x0), (2, .int x1)] → W p l e rmX12_key s m ([.ref a_mo, .int x0, .int x1] : List Value).toArray below meth c H locs 0 0 (MQ below (qX12_key D cI cB a_mo a_mem a_mks a_mr a_cnt a_wd a_one a_two a_mmade a_mrest a_old v_thrown v_mask v_key v_wait v_problem v_code v_length v_cond v_masks v_addr v_mwanted v_wrong v_after v_calls v_oneB v_twoB v_mkF x0 x1 A) ([.ref a_mo, .int x0, .int x1] : List Value).toArray s 0 0 A) (F0 m 25 ls [.int m_25, .ref a_mo]) := by
    intro m_25 em_25 H locs hP hD hS ls hl
    try dsimp only at em_25
    have zm_25_0 : m_25 = 0 ∨ m_25 = 1 := by rw [em_25]; (try dsimp only); (repeat' split) <;> first | exact Or.inl rfl | exact Or.inr rfl
    refine va_put (D := D) (ci := 12) (v := .int m_25) (ty := .int) (C := RX12) (T := TX12) (N := 26) hx hb hts in_X12 tyX12 tyX12_ok nmX12 hown hK hP hD hS 0 rfl rfl 0 (by decide) q_0 (fun _ h9 => h9) rfl (by decide +kernel) rfl rfl (Nat.le_of_ble_eq_true rfl) dX12_key_25 (fun H locs hP hD hS => ?_)
    have hP : va_P D vwCl (wX12_key cI cB a_mo a_mem a_mks a_mr a_cnt a_wd a_one a_two a_mmade a_mrest a_old m_25 v_mask v_key v_wait v_problem v_code v_length v_cond v_masks v_addr v_mwanted v_wrong v_after v_calls v_oneB v_twoB v_mkF) H := hP
    have hD : va_D A (wX12_key cI cB a_mo a_mem a_mks a_mr a_cnt a_wd a_one a_two a_mmade a_mrest a_old m_25 v_mask v_key v_wait v_problem v_code v_length v_cond v_masks v_addr v_mwanted v_wrong v_after v_calls v_oneB v_twoB v_mkF) := hD
    refine lv_aload_n hx hb dX12_key_28 rfl (lv_at hl 0 rfl) ?_
    refine va_get (D := D) (ci := 12) (v := .int m_25) (C := RX12) (T := TX12) (N := 26) hx hb hts in_X12 hown hK hP 0 rfl rfl 0 (by decide) q_0 (fun _ h9 => h9) rfl dX12_key_29 ?_
    refine lv_if_le (tgt := 37) hx hb dX12_key_32 (by decide) (fun c_32 => ?_) (fun c_32 => ?_)
    · skip
      refine lv_aload_n hx hb dX12_key_37 rfl (lv_at hl 0 rfl) ?_
      refine va_get (D := D) (ci := 12) (v := .ref a_mks) (C := RX12) (T := TX12) (N := 26) hx hb hts in_X12 hown hK hP 0 rfl rfl 2 (by decide) q_1 (fun _ h9 => h9) rfl dX12_key_38 ?_
      refine lv_iload_n hx hb dX12_key_41 rfl (lv_at hl 1 rfl) ?_
      refine va_iald hx hb hK hP 1 0 rfl rfl (key_in em_25 c_32) dX12_key_42 ?_
      refine lv_topi (fun x_43 ex_43 => ?_)
      refine lv_istore_n (lv' := [(3, .int x_43), (0, .ref a_mo), (1, .int x0), (2, .int x1)]) hx hb dX12_key_43 rfl hl (by decide) rfl (fun ls hl => ?_)
      refine lv_aload_n hx hb dX12_key_44 rfl (lv_at hl 1 rfl) ?_
      refine va_get (D := D) (ci := 12) (v := .ref a_mks) (C := RX12) (T := TX12) (N := 26) hx hb hts in_X12 hown hK hP 0 rfl rfl 2 (by decide) q_1 (fun _ h9 => h9) rfl dX12_key_45 ?_
      refine lv_iload_n hx hb dX12_key_48 rfl (lv_at hl 2 rfl) ?_
      refine lv_iload_n hx hb dX12_key_49 rfl (lv_at hl 3 rfl) ?_
      refine va_iast hx hb hK hP hD hS 1 0 rfl rfl (key_in em_25 c_32) dX12_key_50 (fun H locs hP hD hS => ?_)
      obtain ⟨f_50, ef_50⟩ : ∃ z : Nat → Int32, z = upd v_mkF (x0 : Int32).toNatClampNeg (x1) := ⟨_, rfl⟩
      have hP : va_P D vwCl (wX12_key cI cB a_mo a_mem a_mks a_mr a_cnt a_wd a_one a_two a_mmade a_mrest a_old m_25 v_mask v_key v_wait v_problem v_code v_length v_cond v_masks v_addr v_mwanted v_wrong v_after v_calls v_oneB v_twoB (upd v_mkF (x0 : Int32).toNatClampNeg (x1))) H := hP
      have hD : va_D A (wX12_key cI cB a_mo a_mem a_mks a_mr a_cnt a_wd a_one a_two a_mmade a_mrest a_old m_25 v_mask v_key v_wait v_problem v_code v_length v_cond v_masks v_addr v_mwanted v_wrong v_after v_calls v_oneB v_twoB (upd v_mkF (x0 : Int32).toNatClampNeg (x1))) := hD
      rw [← ef_50] at hP hD
      refine lv_iload_n hx hb dX12_key_51 rfl (lv_at hl 0 rfl) ?_
      have hf9 : (x_43, (m_25, f_50)) = fX12_key x0 x1 v_thrown v_mkF := by subst ef_50; subst ex_43; simp only [fX12_key, ← em_25]; (try simp only [if_pos c_32])
      exact W.iret hx hb hr (fun t9 ht9 hW9 => ⟨⟨x_43, (m_25, f_50), rfl, ⟨by rw [← hf9], by rw [← hf9]⟩, ⟨by rw [ht9]; exact hP, va_K.moved hW9.alike hK, hD⟩⟩, hS.F ht9⟩) hS.2.2 dX12_key_52
    · skip
      refine lv_iconst (v := 0) hx hb dX12_key_35 (by decide) ?_
      have hf9 : (0, (m_25, v_mkF)) = fX12_key x0 x1 v_thrown v_mkF := by simp only [fX12_key, ← em_25]; (try simp only [if_neg c_32])
      exact W.iret hx hb hr (fun t9 ht9 hW9 => ⟨⟨0, (m_25, v_mkF), rfl, ⟨by rw [← hf9], by rw [← hf9]⟩, ⟨by rw [ht9]; exact hP, va_K.moved hW9.alike hK, hD⟩⟩, hS.F ht9⟩) hS.2.2 dX12_key_36
  refine lv_if_lt (tgt := 20) hx hb dX12_key_2 (by decide) (fun c_2 => ?_) (fun c_2 => ?_)
  · skip
    refine lv_iconst (v := 1) hx hb dX12_key_20 (by decide) ?_
    refine lv_goto (tgt := 25) hx hb dX12_key_21 (by decide) ?_
    exact J_25 1 (by (try simp only [if_pos c_2])) _ _ hP hD hS ls (lv_sub hl [0, 1, 2] rfl)
  · skip
    refine lv_iload_n hx hb dX12_key_5 rfl (lv_at hl 1 rfl) ?_
    refine lv_iconst (v := 3) hx hb dX12_key_6 (by decide) ?_
    refine lv_icmp_gt (tgt := 20) hx hb dX12_key_7 (by decide) (fun c_7 => ?_) (fun c_7 => ?_)
    · skip
      refine lv_iconst (v := 1) hx hb dX12_key_20 (by decide) ?_
      refine lv_goto (tgt := 25) hx hb dX12_key_21 (by decide) ?_
      exact J_25 1 (by (try simp only [if_neg c_2, if_pos c_7])) _ _ hP hD hS ls (lv_sub hl [0, 1, 2] rfl)
    · skip
      refine lv_iload_n hx hb dX12_key_10 rfl (lv_at hl 2 rfl) ?_
      refine lv_if_lt (tgt := 20) hx hb dX12_key_11 (by decide) (fun c_11 => ?_) (fun c_11 => ?_)
      · skip
        refine lv_iconst (v := 1) hx hb dX12_key_20 (by decide) ?_
        refine lv_goto (tgt := 25) hx hb dX12_key_21 (by decide) ?_
        exact J_25 1 (by (try simp only [if_neg c_2, if_neg c_7, if_pos c_11])) _ _ hP hD hS ls (lv_sub hl [0, 1, 2] rfl)
      · skip
        refine lv_iload_n hx hb dX12_key_14 rfl (lv_at hl 2 rfl) ?_
        refine lv_bipush (v := 31) hx hb dX12_key_15 (by decide) ?_
        refine lv_icmp_le (tgt := 24) hx hb dX12_key_17 (by decide) (fun c_17 => ?_) (fun c_17 => ?_)
        · skip
          refine lv_iconst (v := 0) hx hb dX12_key_24 (by decide) ?_
          exact J_25 0 (by (try simp only [if_neg c_2, if_neg c_7, if_neg c_11, if_pos c_17])) _ _ hP hD hS ls (lv_sub hl [0, 1, 2] rfl)
        · skip
          refine lv_iconst (v := 1) hx hb dX12_key_20 (by decide) ?_
          refine lv_goto (tgt := 25) hx hb dX12_key_21 (by decide) ?_
          exact J_25 1 (by (try simp only [if_neg c_2, if_neg c_7, if_neg c_11, if_neg c_17])) _ _ hP hD hS ls (lv_sub hl [0, 1, 2] rfl)
theorem hdX12_key : yX12_key.cls = RX12 ∧ yX12_key.cls ≠ "java/lang/invoke/MethodHandle" ∧ yX12_key.cls ≠ "java/lang/invoke/VarHandle" ∧ (parseMethodDescriptor yX12_key.desc).map (fun d => d.parameters.length) = some 2 := by decide +kernel
noncomputable def LX12_sum_9 (v_mF : (Nat → Int32)) : Nat → (Int32 × Int32) → (Int32 × Int32)
  | 0, w_9 => w_9
  | n9 + 1, w_9 =>
    if 8192 ≤ w_9.2 then ((w_9.1, w_9.2)) else (let x_28 := (w_9.1 + ((v_mF (w_9.2 : Int32).toNatClampNeg) * (w_9.2 + 1))); let x_29 := w_9.2 + 1; LX12_sum_9 v_mF n9 (x_28, x_29))
noncomputable def fX12_sum (v_thrown : Int32) (v_mF : (Nat → Int32)) : (Int32 × Int32) :=
  let g_9 := LX12_sum_9 v_mF (msU 8192 0 + 1) (0, 0)
  (g_9.1, 0)
abbrev wX12_sum (cI cB : ClassId) (a_mo a_mem a_mks a_mr a_cnt a_wd a_one a_two a_mmade a_mrest a_old : Nat) (v_thrown : Int32) (v_mask : Int32) (v_key : Int32) (v_wait : Int32) (v_problem : Int32) (v_code : Int32) (v_length : Int32) (v_cond : Int32) (v_masks : Int32) (v_addr : Int32) (v_mwanted : Int32) (v_wrong : Int32) (v_after : Int32) (v_calls : Int32) (v_oneB : Int32) (v_twoB : Int32) (v_mF : (Nat → Int32)) : va_W := [(a_mo, .inr (12, [.int v_thrown, .ref a_mem, .ref a_mks, .ref a_mr, .int v_mask, .int v_key, .int v_wait, .int v_problem, .int v_code, .int v_length, .int v_cond, .int v_masks, .int v_addr, .int v_mwanted, .ref a_cnt, .ref a_wd, .int v_wrong, .int v_after, .int v_calls, .ref a_one, .int v_oneB, .ref a_two, .int v_twoB, .ref a_mmade, .ref a_mrest, .ref a_old])), (a_mem, .inl (cI, 8192, .inl v_mF))]
abbrev rmX12_sum : Room := { frames := 0, cells := 0, slots := 0, locals := 0 }
abbrev qX12_sum (D : va_G) (cI cB : ClassId) (a_mo a_mem a_mks a_mr a_cnt a_wd a_one a_two a_mmade a_mrest a_old : Nat) (v_thrown : Int32) (v_mask : Int32) (v_key : Int32) (v_wait : Int32) (v_problem : Int32) (v_code : Int32) (v_length : Int32) (v_cond : Int32) (v_masks : Int32) (v_addr : Int32) (v_mwanted : Int32) (v_wrong : Int32) (v_after : Int32) (v_calls : Int32) (v_oneB : Int32) (v_twoB : Int32) (v_mF : (Nat → Int32)) : (Nat → Prop) → Array Value → State → Outcome → State → Prop := fun A9 => va_Qi (fun (r9 : Int32) (u9 : Int32) => r9 = (fX12_sum v_thrown v_mF).1 ∧ u9 = (fX12_sum v_thrown v_mF).2) (fun u9 t9 => atW D (TYS cI cB) A9 (wX12_sum cI cB a_mo a_mem a_mks a_mr a_cnt a_wd a_one a_two a_mmade a_mrest a_old u9 v_mask v_key v_wait v_problem v_code v_length v_cond v_masks v_addr v_mwanted v_wrong v_after v_calls v_oneB v_twoB v_mF) t9) A9
set_option maxHeartbeats 4000000 in
set_option maxRecDepth 100000 in
theorem kX12_sum (l : Launch) (D : va_G) (cI cB : ClassId) (a_mo a_mem a_mks a_mr a_cnt a_wd a_one a_two a_mmade a_mrest a_old : Nat) (sz : Nat) (v_thrown : Int32) (v_mask : Int32) (v_key : Int32) (v_wait : Int32) (v_problem : Int32) (v_code : Int32) (v_length : Int32) (v_cond : Int32) (v_masks : Int32) (v_addr : Int32) (v_mwanted : Int32) (v_wrong : Int32) (v_after : Int32) (v_calls : Int32) (v_oneB : Int32) (v_twoB : Int32) (v_mF : (Nat → Int32)) : MetW l yX12_sum (WK yX12_sum cX12_sum 3 (some .int)) rmX12_sum D (TYS cI cB) (wX12_sum cI cB a_mo a_mem a_mks a_mr a_cnt a_wd a_one a_two a_mmade a_mrest a_old v_thrown v_mask v_key v_wait v_problem v_code v_length v_cond v_masks v_addr v_mwanted v_wrong v_after v_calls v_oneB v_twoB v_mF) sz [.ref a_mo] (qX12_sum D cI cB a_mo a_mem a_mks a_mr a_cnt a_wd a_one a_two a_mmade a_mrest a_old v_thrown v_mask v_key v_wait v_problem v_code v_length v_cond v_masks v_addr v_mwanted v_wrong v_after v_calls v_oneB v_twoB v_mF) 0 0 := by
  refine met_std (by decide) rfl (Nat.le_of_ble_eq_true rfl) ?_
  intro p e s m below meth c A ls H hx hb hr hml hown hts hlocks hA hP hK hD hS hNW hl
  have hl : lv_has ls 3 [(0, .ref a_mo)] := hl
  have q_0 := hts _ (List.mem_cons_of_mem _ wd_788)
  have q_1 := hts _ (List.mem_cons_of_mem _ wd_777)
  refine lv_aload_n hx hb dX12_sum_0 rfl (lv_at hl 0 rfl) ?_
  refine lv_iconst (v := 0) hx hb dX12_sum_1 (by decide) ?_
  refine va_put (D := D) (ci := 12) (v := .int 0) (ty := .int) (C := RX12) (T := TX12) (N := 26) hx hb hts in_X12 tyX12 tyX12_ok nmX12 hown hK hP hD hS 0 rfl rfl 0 (by decide) q_0 (fun _ h9 => h9) rfl (by decide +kernel) rfl rfl (Nat.le_of_ble_eq_true rfl) dX12_sum_2 (fun H locs hP hD hS => ?_)
  have hP : va_P D vwCl (wX12_sum cI cB a_mo a_mem a_mks a_mr a_cnt a_wd a_one a_two a_mmade a_mrest a_old 0 v_mask v_key v_wait v_problem v_code v_length v_cond v_masks v_addr v_mwanted v_wrong v_after v_calls v_oneB v_twoB v_mF) H := hP
  have hD : va_D A (wX12_sum cI cB a_mo a_mem a_mks a_mr a_cnt a_wd a_one a_two a_mmade a_mrest a_old 0 v_mask v_key v_wait v_problem v_code v_length v_cond v_masks v_addr v_mwanted v_wrong v_after v_calls v_oneB v_twoB v_mF) := hD
  refine lv_iconst (v := 0) hx hb dX12_sum_5 (by decide) ?_
  refine lv_istore_n (lv' := [(1, .int 0), (0, .ref a_mo)]) hx hb dX12_sum_6 rfl hl (by decide) rfl (fun ls hl => ?_)
  refine lv_iconst (v := 0) hx hb dX12_sum_7 (by decide) ?_
  refine lv_istore_n (lv' := [(2, .int 0), (1, .int 0), (0, .ref a_mo)]) hx hb dX12_sum_8 rfl hl (by decide) rfl (fun ls hl => ?_)
  obtain ⟨g_9, eg_9⟩ : ∃ z : (Int32 × Int32), z = LX12_sum_9 v_mF (msU 8192 0 + 1) (0, 0) := ⟨_, rfl⟩
  have K_9_0 : ∀ (H : Heap) (locs : List Loc), va_P D vwCl (wX12_sum cI cB a_mo a_mem a_mks a_mr a_cnt a_wd a_one a_two a_mmade a_mrest a_old 0 v_mask v_key v_wait v_problem v_code v_length v_cond v_masks v_addr v_mwanted v_wrong v_after v_calls v_oneB v_twoB v_mF) H → va_D A (wX12_sum cI cB a_mo a_mem a_mks a_mr a_cnt a_wd a_one a_two a_mmade a_mrest a_old 0 v_mask v_key v_wait v_problem v_code v_length v_cond v_masks v_addr v_mwanted v_wrong v_after v_calls v_oneB v_twoB v_mF) → va_S A s.heap H locs → ∀ (ls : Array Slot), lv_has ls 3 [(0, .ref a_mo), (1, .int g_9.1), (2, .int g_9.2)] → W p l e rmX12_sum s m ([.ref a_mo] : List Value).toArray below meth c H locs 0 0 (MQ below (qX12_sum D cI cB a_mo a_mem a_mks a_mr a_cnt a_wd a_one a_two a_mmade a_mrest a_old v_thrown v_mask v_key v_wait v_problem v_code v_length v_cond v_masks v_addr v_mwanted v_wrong v_after v_calls v_oneB v_twoB v_mF A) ([.ref a_mo] : List Value).toArray s 0 0 A) (F0 m 35 ls []) := by
    intro H locs hP hD hS ls hl
    refine lv_iload_n hx hb dX12_sum_35 rfl (lv_at hl 1 rfl) ?_
    have hf9 : (g_9.1, 0) = fX12_sum v_thrown v_mF := by simp only [fX12_sum, ← eg_9]
    exact W.iret hx hb hr (fun t9 ht9 hW9 => ⟨⟨g_9.1, 0, rfl, ⟨by rw [← hf9], by rw [← hf9]⟩, ⟨by rw [ht9]; exact hP, va_K.moved hW9.alike hK, hD⟩⟩, hS.F ht9⟩) hS.2.2 dX12_sum_36
  have lp_9 : ∀ (n9 : Nat) (w_9 : (Int32 × Int32)), msU 8192 w_9.2 < n9 → 0 ≤ w_9.2 → LX12_sum_9 v_mF n9 w_9 = g_9 → ∀ (H : Heap) (locs : List Loc), va_P D vwCl (wX12_sum cI cB a_mo a_mem a_mks a_mr a_cnt a_wd a_one a_two a_mmade a_mrest a_old 0 v_mask v_key v_wait v_problem v_code v_length v_cond v_masks v_addr v_mwanted v_wrong v_after v_calls v_oneB v_twoB v_mF) H → va_D A (wX12_sum cI cB a_mo a_mem a_mks a_mr a_cnt a_wd a_one a_two a_mmade a_mrest a_old 0 v_mask v_key v_wait v_problem v_code v_length v_cond v_masks v_addr v_mwanted v_wrong v_after v_calls v_oneB v_twoB v_mF) → va_S A s.heap H locs → ∀ (ls : Array Slot), lv_has ls 3 [(0, .ref a_mo), (1, .int w_9.1), (2, .int w_9.2)] → W p l e rmX12_sum s m ([.ref a_mo] : List Value).toArray below meth c H locs 0 0 (MQ below (qX12_sum D cI cB a_mo a_mem a_mks a_mr a_cnt a_wd a_one a_two a_mmade a_mrest a_old v_thrown v_mask v_key v_wait v_problem v_code v_length v_cond v_masks v_addr v_mwanted v_wrong v_after v_calls v_oneB v_twoB v_mF A) ([.ref a_mo] : List Value).toArray s 0 0 A) (F0 m 9 ls []) := by
    intro n9
    induction n9 with
    | zero => intro w_9 hm9; exact absurd hm9 (Nat.not_lt_zero _)
    | succ n9 ih =>
      intro w_9 hm9 hI9 hL9 H locs hP hD hS ls hl
      have hI_9 := hI9
      refine lv_iload_n hx hb dX12_sum_9 rfl (lv_at hl 2 rfl) ?_
      refine lv_sipush (v := 8192) hx hb dX12_sum_10 (by decide) ?_
      refine lv_icmp_ge (tgt := 35) hx hb dX12_sum_13 (by decide) (fun c_13 => ?_) (fun c_13 => ?_)
      · skip
        have hg9 : (w_9.1, w_9.2) = g_9 := by rw [← hL9]; simp only [LX12_sum_9]; (try simp only [if_pos c_13])
        subst hg9
        exact K_9_0 _ _ hP hD hS ls (lv_sub hl [0, 1, 2] rfl)
      · skip
        refine lv_iload_n hx hb dX12_sum_16 rfl (lv_at hl 1 rfl) ?_
        refine lv_aload_n hx hb dX12_sum_17 rfl (lv_at hl 0 rfl) ?_
        refine va_get (D := D) (ci := 12) (v := .ref a_mem) (C := RX12) (T := TX12) (N := 26) hx hb hts in_X12 hown hK hP 0 rfl rfl 1 (by decide) q_1 (fun _ h9 => h9) rfl dX12_sum_18 ?_
        refine lv_iload_n hx hb dX12_sum_21 rfl (lv_at hl 2 rfl) ?_
        refine va_iald hx hb hK hP 1 0 rfl rfl (by first | with_reducible assumption | exact vin_of (b := 8192) (by decide) (by with_reducible assumption) (by with_reducible assumption) | exact vin_of (b := 8192) (by decide) (Int32.not_lt.mp (by with_reducible assumption)) (by with_reducible assumption) | exact vin_dn (by decide) (by with_reducible assumption) hI9) dX12_sum_22 ?_
        refine lv_iload_n hx hb dX12_sum_23 rfl (lv_at hl 2 rfl) ?_
        refine lv_iconst (v := 1) hx hb dX12_sum_24 (by decide) ?_
        refine lv_iadd hx hb dX12_sum_25 ?_
        refine lv_imul hx hb dX12_sum_26 ?_
        refine lv_iadd hx hb dX12_sum_27 ?_
        refine lv_topi (fun x_28 ex_28 => ?_)
        refine lv_istore_n (lv' := [(1, .int x_28), (0, .ref a_mo), (2, .int w_9.2)]) hx hb dX12_sum_28 rfl hl (by decide) rfl (fun ls hl => ?_)
        obtain ⟨x_29, ex_29⟩ : ∃ z : Int32, z = w_9.2 + 1 := ⟨_, rfl⟩
        refine lv_iinc (v := x_29) (lv' := [(2, .int x_29), (1, .int x_28), (0, .ref a_mo)]) hx hb dX12_sum_29 hl (k := 2) rfl (by rw [ex_29]; rfl) (by decide) rfl (fun ls hl => ?_)
        refine lv_goto (tgt := 9) hx hb dX12_sum_32 (by decide) ?_
        exact ih (x_28, x_29) (by subst ex_29; subst ex_28;  exact Nat.lt_of_lt_of_le (ms_up c_13) (Nat.le_of_lt_succ hm9)) (by subst ex_29; subst ex_28;  exact nn_up hI9 c_13) (by rw [← hL9]; subst ex_29; subst ex_28; simp only [LX12_sum_9]; (try simp only [if_neg c_13])) _ _ hP hD hS ls (lv_sub hl [2, 1, 0] rfl)
  exact lp_9 (msU 8192 0 + 1) (0, 0) (Nat.lt_succ_self _) (by show (0 : Int32) ≤ 0; decide) eg_9.symm _ _ hP hD hS ls (lv_sub hl [2, 1, 0] rfl)
theorem hdX12_sum : yX12_sum.cls = RX12 ∧ yX12_sum.cls ≠ "java/lang/invoke/MethodHandle" ∧ yX12_sum.cls ≠ "java/lang/invoke/VarHandle" ∧ (parseMethodDescriptor yX12_sum.desc).map (fun d => d.parameters.length) = some 0 := by decide +kernel
noncomputable def fX12_told (x0 : Int32) (v_thrown : Int32) (v_cntF : (Nat → Int32)) : (Int32 × Int32) :=
  let m_15 : Int32 := (if x0 < 0 then (1) else (if x0 ≤ 2 then (0) else (1)))
  if m_15 ≤ 0 then (((v_cntF (x0 : Int32).toNatClampNeg), m_15)) else ((0, m_15))
abbrev wX12_told (cI cB : ClassId) (a_mo a_mem a_mks a_mr a_cnt a_wd a_one a_two a_mmade a_mrest a_old : Nat) (v_thrown : Int32) (v_mask : Int32) (v_key : Int32) (v_wait : Int32) (v_problem : Int32) (v_code : Int32) (v_length : Int32) (v_cond : Int32) (v_masks : Int32) (v_addr : Int32) (v_mwanted : Int32) (v_wrong : Int32) (v_after : Int32) (v_calls : Int32) (v_oneB : Int32) (v_twoB : Int32) (v_cntF : (Nat → Int32)) : va_W := [(a_mo, .inr (12, [.int v_thrown, .ref a_mem, .ref a_mks, .ref a_mr, .int v_mask, .int v_key, .int v_wait, .int v_problem, .int v_code, .int v_length, .int v_cond, .int v_masks, .int v_addr, .int v_mwanted, .ref a_cnt, .ref a_wd, .int v_wrong, .int v_after, .int v_calls, .ref a_one, .int v_oneB, .ref a_two, .int v_twoB, .ref a_mmade, .ref a_mrest, .ref a_old])), (a_cnt, .inl (cI, 3, .inl v_cntF))]
abbrev rmX12_told : Room := { frames := 0, cells := 0, slots := 0, locals := 0 }
abbrev qX12_told (D : va_G) (cI cB : ClassId) (a_mo a_mem a_mks a_mr a_cnt a_wd a_one a_two a_mmade a_mrest a_old : Nat) (v_thrown : Int32) (v_mask : Int32) (v_key : Int32) (v_wait : Int32) (v_problem : Int32) (v_code : Int32) (v_length : Int32) (v_cond : Int32) (v_masks : Int32) (v_addr : Int32) (v_mwanted : Int32) (v_wrong : Int32) (v_after : Int32) (v_calls : Int32) (v_oneB : Int32) (v_twoB : Int32) (v_cntF : (Nat → Int32)) (x0 : Int32) : (Nat → Prop) → Array Value → State → Outcome → State → Prop := fun A9 => va_Qi (fun (r9 : Int32) (u9 : Int32) => r9 = (fX12_told x0 v_thrown v_cntF).1 ∧ u9 = (fX12_told x0 v_thrown v_cntF).2) (fun u9 t9 => atW D (TYS cI cB) A9 (wX12_told cI cB a_mo a_mem a_mks a_mr a_cnt a_wd a_one a_two a_mmade a_mrest a_old u9 v_mask v_key v_wait v_problem v_code v_length v_cond v_masks v_addr v_mwanted v_wrong v_after v_calls v_oneB v_twoB v_cntF) t9) A9
set_option maxHeartbeats 4000000 in
set_option maxRecDepth 100000 in
theorem kX12_told (l : Launch) (D : va_G) (cI cB : ClassId) (a_mo a_mem a_mks a_mr a_cnt a_wd a_one a_two a_mmade a_mrest a_old : Nat) (sz : Nat) (v_thrown : Int32) (v_mask : Int32) (v_key : Int32) (v_wait : Int32) (v_problem : Int32) (v_code : Int32) (v_length : Int32) (v_cond : Int32) (v_masks : Int32) (v_addr : Int32) (v_mwanted : Int32) (v_wrong : Int32) (v_after : Int32) (v_calls : Int32) (v_oneB : Int32) (v_twoB : Int32) (v_cntF : (Nat → Int32)) (x0 : Int32) : MetW l yX12_told (WK yX12_told cX12_told 2 (some .int)) rmX12_told D (TYS cI cB) (wX12_told cI cB a_mo a_mem a_mks a_mr a_cnt a_wd a_one a_two a_mmade a_mrest a_old v_thrown v_mask v_key v_wait v_problem v_code v_length v_cond v_masks v_addr v_mwanted v_wrong v_after v_calls v_oneB v_twoB v_cntF) sz [.ref a_mo, .int x0] (qX12_told D cI cB a_mo a_mem a_mks a_mr a_cnt a_wd a_one a_two a_mmade a_mrest a_old v_thrown v_mask v_key v_wait v_problem v_code v_length v_cond v_masks v_addr v_mwanted v_wrong v_after v_calls v_oneB v_twoB v_cntF x0) 0 0 := by
  refine met_std (by decide) rfl (Nat.le_of_ble_eq_true rfl) ?_
  intro p e s m below meth c A ls H hx hb hr hml hown hts hlocks hA hP hK hD hS hNW hl
  have hl : lv_has ls 2 [(0, .ref a_mo), (1, .int x0)] := hl
  have q_0 := hts _ (List.mem_cons_of_mem _ wd_788)
  have q_1 := hts _ (List.mem_cons_of_mem _ wd_780)
  refine lv_aload_n hx hb dX12_told_0 rfl (lv_at hl 0 rfl) ?_
  refine lv_iload_n hx hb dX12_told_1 rfl (lv_at hl 1 rfl) ?_
  have J_15 : ∀ (m_15 : Int32), m_15 = (if x0 < 0 then (1) else (if x0 ≤ 2 then (0) else (1))) → ∀ (H : Heap) (locs : List Loc), va_P D vwCl (wX12_told cI cB a_mo a_mem a_mks a_mr a_cnt a_wd a_one a_two a_mmade a_mrest a_old v_thrown v_mask v_key v_wait v_problem v_code v_length v_cond v_masks v_addr v_mwanted v_wrong v_after v_calls v_oneB v_twoB v_cntF) H → va_D A (wX12_told cI cB a_mo a_mem a_mks a_mr a_cnt a_wd a_one a_two a_mmade a_mrest a_old v_thrown v_mask v_key v_wait v_problem v_code v_length v_cond v_masks v_addr v_mwanted v_wrong v_after v_calls v_oneB v_twoB v_cntF) → va_S A s.heap H locs → ∀ (ls : Array Slot), lv_has ls 2 [(0, .ref a_mo), (1, .int x0)] → W p l e rmX12_told s m ([.ref a_mo, .int x0] : List Value).toArray below meth c H locs 0 0 (MQ below (qX12_told D cI cB a_mo a_mem a_mks a_mr a_cnt a_wd a_one a_two a_mmade a_mrest a_old v_thrown v_mask v_key v_wait v_problem v_code v_length v_cond v_masks v_addr v_mwanted v_wrong v_after v_calls v_oneB v_twoB v_cntF x0 A) ([.ref a_mo, .int x0] : List Value).toArray s 0 0 A) (F0 m 15 ls [.int m_15, .ref a_mo]) := by
    intro m_15 em_15 H locs hP hD hS ls hl
    try dsimp only at em_15
    have zm_15_0 : m_15 = 0 ∨ m_15 = 1 := by rw [em_15]; (try dsimp only); (repeat' split) <;> first | exact Or.inl rfl | exact Or.inr rfl
    refine va_put (D := D) (ci := 12) (v := .int m_15) (ty := .int) (C := RX12) (T := TX12) (N := 26) hx hb hts in_X12 tyX12 tyX12_ok nmX12 hown hK hP hD hS 0 rfl rfl 0 (by decide) q_0 (fun _ h9 => h9) rfl (by decide +kernel) rfl rfl (Nat.le_of_ble_eq_true rfl) dX12_told_15 (fun H locs hP hD hS => ?_)
    have hP : va_P D vwCl (wX12_told cI cB a_mo a_mem a_mks a_mr a_cnt a_wd a_one a_two a_mmade a_mrest a_old m_15 v_mask v_key v_wait v_problem v_code v_length v_cond v_masks v_addr v_mwanted v_wrong v_after v_calls v_oneB v_twoB v_cntF) H := hP
    have hD : va_D A (wX12_told cI cB a_mo a_mem a_mks a_mr a_cnt a_wd a_one a_two a_mmade a_mrest a_old m_15 v_mask v_key v_wait v_problem v_code v_length v_cond v_masks v_addr v_mwanted v_wrong v_after v_calls v_oneB v_twoB v_cntF) := hD
    refine lv_aload_n hx hb dX12_told_18 rfl (lv_at hl 0 rfl) ?_
    refine va_get (D := D) (ci := 12) (v := .int m_15) (C := RX12) (T := TX12) (N := 26) hx hb hts in_X12 hown hK hP 0 rfl rfl 0 (by decide) q_0 (fun _ h9 => h9) rfl dX12_told_19 ?_
    refine lv_if_le (tgt := 29) hx hb dX12_told_22 (by decide) (fun c_22 => ?_) (fun c_22 => ?_)
    · skip
      refine lv_aload_n hx hb dX12_told_29 rfl (lv_at hl 0 rfl) ?_
      refine va_get (D := D) (ci := 12) (v := .ref a_cnt) (C := RX12) (T := TX12) (N := 26) hx hb hts in_X12 hown hK hP 0 rfl rfl 14 (by decide) q_1 (fun _ h9 => h9) rfl dX12_told_30 ?_
      refine lv_iload_n hx hb dX12_told_33 rfl (lv_at hl 1 rfl) ?_
      refine va_iald hx hb hK hP 1 0 rfl rfl (rg_in (B := 2) (by decide) em_15 c_22) dX12_told_34 ?_
      have hf9 : ((v_cntF (x0 : Int32).toNatClampNeg), m_15) = fX12_told x0 v_thrown v_cntF := by simp only [fX12_told, ← em_15]; (try simp only [if_pos c_22])
      exact W.iret hx hb hr (fun t9 ht9 hW9 => ⟨⟨(v_cntF (x0 : Int32).toNatClampNeg), m_15, rfl, ⟨by rw [← hf9], by rw [← hf9]⟩, ⟨by rw [ht9]; exact hP, va_K.moved hW9.alike hK, hD⟩⟩, hS.F ht9⟩) hS.2.2 dX12_told_35
    · skip
      refine lv_iconst (v := 0) hx hb dX12_told_25 (by decide) ?_
      refine lv_goto (tgt := 35) hx hb dX12_told_26 (by decide) ?_
      have hf9 : (0, m_15) = fX12_told x0 v_thrown v_cntF := by simp only [fX12_told, ← em_15]; (try simp only [if_neg c_22])
      exact W.iret hx hb hr (fun t9 ht9 hW9 => ⟨⟨0, m_15, rfl, ⟨by rw [← hf9], by rw [← hf9]⟩, ⟨by rw [ht9]; exact hP, va_K.moved hW9.alike hK, hD⟩⟩, hS.F ht9⟩) hS.2.2 dX12_told_35
  refine lv_if_lt (tgt := 10) hx hb dX12_told_2 (by decide) (fun c_2 => ?_) (fun c_2 => ?_)
  · skip
    refine lv_iconst (v := 1) hx hb dX12_told_10 (by decide) ?_
    refine lv_goto (tgt := 15) hx hb dX12_told_11 (by decide) ?_
    exact J_15 1 (by (try simp only [if_pos c_2])) _ _ hP hD hS ls (lv_sub hl [0, 1] rfl)
  · skip
    refine lv_iload_n hx hb dX12_told_5 rfl (lv_at hl 1 rfl) ?_
    refine lv_iconst (v := 2) hx hb dX12_told_6 (by decide) ?_
    refine lv_icmp_le (tgt := 14) hx hb dX12_told_7 (by decide) (fun c_7 => ?_) (fun c_7 => ?_)
    · skip
      refine lv_iconst (v := 0) hx hb dX12_told_14 (by decide) ?_
      exact J_15 0 (by (try simp only [if_neg c_2, if_pos c_7])) _ _ hP hD hS ls (lv_sub hl [0, 1] rfl)
    · skip
      refine lv_iconst (v := 1) hx hb dX12_told_10 (by decide) ?_
      refine lv_goto (tgt := 15) hx hb dX12_told_11 (by decide) ?_
      exact J_15 1 (by (try simp only [if_neg c_2, if_neg c_7])) _ _ hP hD hS ls (lv_sub hl [0, 1] rfl)
theorem hdX12_told : yX12_told.cls = RX12 ∧ yX12_told.cls ≠ "java/lang/invoke/MethodHandle" ∧ yX12_told.cls ≠ "java/lang/invoke/VarHandle" ∧ (parseMethodDescriptor yX12_told.desc).map (fun d => d.parameters.length) = some 1 := by decide +kernel
noncomputable def fX12_want (x0 : Int32) (v_thrown : Int32) (v_mwanted : Int32) : (Int32 × Int32) :=
  let m_17 : Int32 := (if x0 < 0 then (1) else (if x0 ≤ 255 then (0) else (1)))
  if m_17 = 0 then (let x_34 := (v_mwanted ||| x0); (m_17, x_34)) else ((m_17, v_mwanted))
abbrev wX12_want (cI cB : ClassId) (a_mo a_mem a_mks a_mr a_cnt a_wd a_one a_two a_mmade a_mrest a_old : Nat) (v_thrown : Int32) (v_mask : Int32) (v_key : Int32) (v_wait : Int32) (v_problem : Int32) (v_code : Int32) (v_length : Int32) (v_cond : Int32) (v_masks : Int32) (v_addr : Int32) (v_mwanted : Int32) (v_wrong : Int32) (v_after : Int32) (v_calls : Int32) (v_oneB : Int32) (v_twoB : Int32) : va_W := [(a_mo, .inr (12, [.int v_thrown, .ref a_mem, .ref a_mks, .ref a_mr, .int v_mask, .int v_key, .int v_wait, .int v_problem, .int v_code, .int v_length, .int v_cond, .int v_masks, .int v_addr, .int v_mwanted, .ref a_cnt, .ref a_wd, .int v_wrong, .int v_after, .int v_calls, .ref a_one, .int v_oneB, .ref a_two, .int v_twoB, .ref a_mmade, .ref a_mrest, .ref a_old]))]
abbrev rmX12_want : Room := { frames := 0, cells := 0, slots := 0, locals := 0 }
abbrev qX12_want (D : va_G) (cI cB : ClassId) (a_mo a_mem a_mks a_mr a_cnt a_wd a_one a_two a_mmade a_mrest a_old : Nat) (v_thrown : Int32) (v_mask : Int32) (v_key : Int32) (v_wait : Int32) (v_problem : Int32) (v_code : Int32) (v_length : Int32) (v_cond : Int32) (v_masks : Int32) (v_addr : Int32) (v_mwanted : Int32) (v_wrong : Int32) (v_after : Int32) (v_calls : Int32) (v_oneB : Int32) (v_twoB : Int32) (x0 : Int32) : (Nat → Prop) → Array Value → State → Outcome → State → Prop := fun A9 => va_Qv (fun (u9 : (Int32 × Int32)) => u9 = fX12_want x0 v_thrown v_mwanted) (fun u9 t9 => atW D (TYS cI cB) A9 (wX12_want cI cB a_mo a_mem a_mks a_mr a_cnt a_wd a_one a_two a_mmade a_mrest a_old u9.1 v_mask v_key v_wait v_problem v_code v_length v_cond v_masks v_addr u9.2 v_wrong v_after v_calls v_oneB v_twoB) t9) A9
set_option maxHeartbeats 4000000 in
set_option maxRecDepth 100000 in
theorem kX12_want (l : Launch) (D : va_G) (cI cB : ClassId) (a_mo a_mem a_mks a_mr a_cnt a_wd a_one a_two a_mmade a_mrest a_old : Nat) (sz : Nat) (v_thrown : Int32) (v_mask : Int32) (v_key : Int32) (v_wait : Int32) (v_problem : Int32) (v_code : Int32) (v_length : Int32) (v_cond : Int32) (v_masks : Int32) (v_addr : Int32) (v_mwanted : Int32) (v_wrong : Int32) (v_after : Int32) (v_calls : Int32) (v_oneB : Int32) (v_twoB : Int32) (x0 : Int32) : MetW l yX12_want (WK yX12_want cX12_want 2 none) rmX12_want D (TYS cI cB) (wX12_want cI cB a_mo a_mem a_mks a_mr a_cnt a_wd a_one a_two a_mmade a_mrest a_old v_thrown v_mask v_key v_wait v_problem v_code v_length v_cond v_masks v_addr v_mwanted v_wrong v_after v_calls v_oneB v_twoB) sz [.ref a_mo, .int x0] (qX12_want D cI cB a_mo a_mem a_mks a_mr a_cnt a_wd a_one a_two a_mmade a_mrest a_old v_thrown v_mask v_key v_wait v_problem v_code v_length v_cond v_masks v_addr v_mwanted v_wrong v_after v_calls v_oneB v_twoB x0) 0 0 := by
  refine met_std (by decide) rfl (Nat.le_of_ble_eq_true rfl) ?_
  intro p e s m below meth c A ls H hx hb hr hml hown hts hlocks hA hP hK hD hS hNW hl
  have hl : lv_has ls 2 [(0, .ref a_mo), (1, .int x0)] := hl
  have q_0 := hts _ (List.mem_cons_of_mem _ wd_788)
  have q_1 := hts _ (List.mem_cons_of_mem _ wd_1038)
  refine lv_aload_n hx hb dX12_want_0 rfl (lv_at hl 0 rfl) ?_
  refine lv_iload_n hx hb dX12_want_1 rfl (lv_at hl 1 rfl) ?_
  have J_17 : ∀ (m_17 : Int32), m_17 = (if x0 < 0 then (1) else (if x0 ≤ 255 then (0) else (1))) → ∀ (H : Heap) (locs : List Loc), va_P D vwCl (wX12_want cI cB a_mo a_mem a_mks a_mr a_cnt a_wd a_one a_two a_mmade a_mrest a_old v_thrown v_mask v_key v_wait v_problem v_code v_length v_cond v_masks v_addr v_mwanted v_wrong v_after v_calls v_oneB v_twoB) H → va_D A (wX12_want cI cB a_mo a_mem a_mks a_mr a_cnt a_wd a_one a_two a_mmade a_mrest a_old v_thrown v_mask v_key v_wait v_problem v_code v_length v_cond v_masks v_addr v_mwanted v_wrong v_after v_calls v_oneB v_twoB) → va_S A s.heap H locs → ∀ (ls : Array Slot), lv_has ls 2 [(0, .ref a_mo), (1, .int x0)] → W p l e rmX12_want s m ([.ref a_mo, .int x0] : List Value).toArray below meth c H locs 0 0 (MQ below (qX12_want D cI cB a_mo a_mem a_mks a_mr a_cnt a_wd a_one a_two a_mmade a_mrest a_old v_thrown v_mask v_key v_wait v_problem v_code v_length v_cond v_masks v_addr v_mwanted v_wrong v_after v_calls v_oneB v_twoB x0 A) ([.ref a_mo, .int x0] : List Value).toArray s 0 0 A) (F0 m 17 ls [.int m_17, .ref a_mo]) := by
    intro m_17 em_17 H locs hP hD hS ls hl
    try dsimp only at em_17
    have zm_17_0 : m_17 = 0 ∨ m_17 = 1 := by rw [em_17]; (try dsimp only); (repeat' split) <;> first | exact Or.inl rfl | exact Or.inr rfl
    refine va_put (D := D) (ci := 12) (v := .int m_17) (ty := .int) (C := RX12) (T := TX12) (N := 26) hx hb hts in_X12 tyX12 tyX12_ok nmX12 hown hK hP hD hS 0 rfl rfl 0 (by decide) q_0 (fun _ h9 => h9) rfl (by decide +kernel) rfl rfl (Nat.le_of_ble_eq_true rfl) dX12_want_17 (fun H locs hP hD hS => ?_)
    have hP : va_P D vwCl (wX12_want cI cB a_mo a_mem a_mks a_mr a_cnt a_wd a_one a_two a_mmade a_mrest a_old m_17 v_mask v_key v_wait v_problem v_code v_length v_cond v_masks v_addr v_mwanted v_wrong v_after v_calls v_oneB v_twoB) H := hP
    have hD : va_D A (wX12_want cI cB a_mo a_mem a_mks a_mr a_cnt a_wd a_one a_two a_mmade a_mrest a_old m_17 v_mask v_key v_wait v_problem v_code v_length v_cond v_masks v_addr v_mwanted v_wrong v_after v_calls v_oneB v_twoB) := hD
    refine lv_aload_n hx hb dX12_want_20 rfl (lv_at hl 0 rfl) ?_
    refine va_get (D := D) (ci := 12) (v := .int m_17) (C := RX12) (T := TX12) (N := 26) hx hb hts in_X12 hown hK hP 0 rfl rfl 0 (by decide) q_0 (fun _ h9 => h9) rfl dX12_want_21 ?_
    refine lv_if_ne (tgt := 37) hx hb dX12_want_24 (by decide) (fun c_24 => ?_) (fun c_24 => ?_)
    · skip
      have hf9 : (m_17, v_mwanted) = fX12_want x0 v_thrown v_mwanted := by simp only [fX12_want, ← em_17]; (try simp only [if_neg c_24])
      exact W.vret hx hb hr (fun t9 ht9 hW9 => ⟨⟨(m_17, v_mwanted), rfl, hf9, ⟨by rw [ht9]; exact hP, va_K.moved hW9.alike hK, hD⟩⟩, hS.F ht9⟩) hS.2.2 dX12_want_37
    · skip
      refine lv_aload_n hx hb dX12_want_27 rfl (lv_at hl 0 rfl) ?_
      refine lv_aload_n hx hb dX12_want_28 rfl (lv_at hl 0 rfl) ?_
      refine va_get (D := D) (ci := 12) (v := .int v_mwanted) (C := RX12) (T := TX12) (N := 26) hx hb hts in_X12 hown hK hP 0 rfl rfl 13 (by decide) q_1 (fun _ h9 => h9) rfl dX12_want_29 ?_
      refine lv_iload_n hx hb dX12_want_32 rfl (lv_at hl 1 rfl) ?_
      refine lv_ior hx hb dX12_want_33 ?_
      refine lv_topi (fun x_34 ex_34 => ?_)
      refine va_put (D := D) (ci := 12) (v := .int x_34) (ty := .int) (C := RX12) (T := TX12) (N := 26) hx hb hts in_X12 tyX12 tyX12_ok nmX12 hown hK hP hD hS 0 rfl rfl 13 (by decide) q_1 (fun _ h9 => h9) rfl (by decide +kernel) rfl rfl (Nat.le_of_ble_eq_true rfl) dX12_want_34 (fun H locs hP hD hS => ?_)
      have hP : va_P D vwCl (wX12_want cI cB a_mo a_mem a_mks a_mr a_cnt a_wd a_one a_two a_mmade a_mrest a_old m_17 v_mask v_key v_wait v_problem v_code v_length v_cond v_masks v_addr x_34 v_wrong v_after v_calls v_oneB v_twoB) H := hP
      have hD : va_D A (wX12_want cI cB a_mo a_mem a_mks a_mr a_cnt a_wd a_one a_two a_mmade a_mrest a_old m_17 v_mask v_key v_wait v_problem v_code v_length v_cond v_masks v_addr x_34 v_wrong v_after v_calls v_oneB v_twoB) := hD
      have hf9 : (m_17, x_34) = fX12_want x0 v_thrown v_mwanted := by subst ex_34; simp only [fX12_want, ← em_17]; (try simp only [if_pos c_24])
      exact W.vret hx hb hr (fun t9 ht9 hW9 => ⟨⟨(m_17, x_34), rfl, hf9, ⟨by rw [ht9]; exact hP, va_K.moved hW9.alike hK, hD⟩⟩, hS.F ht9⟩) hS.2.2 dX12_want_37
  refine lv_if_lt (tgt := 12) hx hb dX12_want_2 (by decide) (fun c_2 => ?_) (fun c_2 => ?_)
  · skip
    refine lv_iconst (v := 1) hx hb dX12_want_12 (by decide) ?_
    refine lv_goto (tgt := 17) hx hb dX12_want_13 (by decide) ?_
    exact J_17 1 (by (try simp only [if_pos c_2])) _ _ hP hD hS ls (lv_sub hl [0, 1] rfl)
  · skip
    refine lv_iload_n hx hb dX12_want_5 rfl (lv_at hl 1 rfl) ?_
    refine lv_sipush (v := 255) hx hb dX12_want_6 (by decide) ?_
    refine lv_icmp_le (tgt := 16) hx hb dX12_want_9 (by decide) (fun c_9 => ?_) (fun c_9 => ?_)
    · skip
      refine lv_iconst (v := 0) hx hb dX12_want_16 (by decide) ?_
      exact J_17 0 (by (try simp only [if_neg c_2, if_pos c_9])) _ _ hP hD hS ls (lv_sub hl [0, 1] rfl)
    · skip
      refine lv_iconst (v := 1) hx hb dX12_want_12 (by decide) ?_
      refine lv_goto (tgt := 17) hx hb dX12_want_13 (by decide) ?_
      exact J_17 1 (by (try simp only [if_neg c_2, if_neg c_9])) _ _ hP hD hS ls (lv_sub hl [0, 1] rfl)
theorem hdX12_want : yX12_want.cls = RX12 ∧ yX12_want.cls ≠ "java/lang/invoke/MethodHandle" ∧ yX12_want.cls ≠ "java/lang/invoke/VarHandle" ∧ (parseMethodDescriptor yX12_want.desc).map (fun d => d.parameters.length) = some 1 := by decide +kernel
noncomputable def fX12_tick (x0 : Int32) (v_thrown : Int32) (v_mwanted : Int32) (v_mF : (Nat → Int32)) : (Int32 × (Int32 × Int32 × (Nat → Int32))) :=
  let m_17 : Int32 := (if x0 < 0 then (1) else (if x0 ≤ 1000000 then (0) else (1)))
  if m_17 ≤ 0 then (let r_33 := fX12_fetch 80 4 v_mF; let x_37 := (r_33 : Int64).toInt32; let x_41 := (x_37 - x0); let u_48 := fX12_store 80 ((x_41 : Int32).toInt64) 4 v_mF; if x_37 < 0 then ((x_41, (m_17, v_mwanted, u_48))) else (if 0 ≤ x_41 then ((x_41, (m_17, v_mwanted, u_48))) else (let x_68 := (v_mwanted ||| 128); (x_41, (m_17, x_68, u_48))))) else ((0, (m_17, v_mwanted, v_mF)))
abbrev wX12_tick (cI cB : ClassId) (a_mo a_mem a_mks a_mr a_cnt a_wd a_one a_two a_mmade a_mrest a_old : Nat) (v_thrown : Int32) (v_mask : Int32) (v_key : Int32) (v_wait : Int32) (v_problem : Int32) (v_code : Int32) (v_length : Int32) (v_cond : Int32) (v_masks : Int32) (v_addr : Int32) (v_mwanted : Int32) (v_wrong : Int32) (v_after : Int32) (v_calls : Int32) (v_oneB : Int32) (v_twoB : Int32) (v_mF : (Nat → Int32)) : va_W := [(a_mo, .inr (12, [.int v_thrown, .ref a_mem, .ref a_mks, .ref a_mr, .int v_mask, .int v_key, .int v_wait, .int v_problem, .int v_code, .int v_length, .int v_cond, .int v_masks, .int v_addr, .int v_mwanted, .ref a_cnt, .ref a_wd, .int v_wrong, .int v_after, .int v_calls, .ref a_one, .int v_oneB, .ref a_two, .int v_twoB, .ref a_mmade, .ref a_mrest, .ref a_old])), (a_mem, .inl (cI, 8192, .inl v_mF))]
abbrev rmX12_tick : Room := { frames := 1, cells := 0, slots := 0, locals := 25 }
abbrev qX12_tick (D : va_G) (cI cB : ClassId) (a_mo a_mem a_mks a_mr a_cnt a_wd a_one a_two a_mmade a_mrest a_old : Nat) (v_thrown : Int32) (v_mask : Int32) (v_key : Int32) (v_wait : Int32) (v_problem : Int32) (v_code : Int32) (v_length : Int32) (v_cond : Int32) (v_masks : Int32) (v_addr : Int32) (v_mwanted : Int32) (v_wrong : Int32) (v_after : Int32) (v_calls : Int32) (v_oneB : Int32) (v_twoB : Int32) (v_mF : (Nat → Int32)) (x0 : Int32) : (Nat → Prop) → Array Value → State → Outcome → State → Prop := fun A9 => va_Qi (fun (r9 : Int32) (u9 : (Int32 × Int32 × (Nat → Int32))) => r9 = (fX12_tick x0 v_thrown v_mwanted v_mF).1 ∧ u9 = (fX12_tick x0 v_thrown v_mwanted v_mF).2) (fun u9 t9 => atW D (TYS cI cB) A9 (wX12_tick cI cB a_mo a_mem a_mks a_mr a_cnt a_wd a_one a_two a_mmade a_mrest a_old u9.1 v_mask v_key v_wait v_problem v_code v_length v_cond v_masks v_addr u9.2.1 v_wrong v_after v_calls v_oneB v_twoB u9.2.2) t9) A9
set_option maxHeartbeats 4000000 in
set_option maxRecDepth 100000 in
theorem kX12_tick (l : Launch) (D : va_G) (cI cB : ClassId) (a_mo a_mem a_mks a_mr a_cnt a_wd a_one a_two a_mmade a_mrest a_old : Nat) (sz : Nat) (v_thrown : Int32) (v_mask : Int32) (v_key : Int32) (v_wait : Int32) (v_problem : Int32) (v_code : Int32) (v_length : Int32) (v_cond : Int32) (v_masks : Int32) (v_addr : Int32) (v_mwanted : Int32) (v_wrong : Int32) (v_after : Int32) (v_calls : Int32) (v_oneB : Int32) (v_twoB : Int32) (v_mF : (Nat → Int32)) (x0 : Int32) : MetW l yX12_tick (WK yX12_tick cX12_tick 4 (some .int)) rmX12_tick D (TYS cI cB) (wX12_tick cI cB a_mo a_mem a_mks a_mr a_cnt a_wd a_one a_two a_mmade a_mrest a_old v_thrown v_mask v_key v_wait v_problem v_code v_length v_cond v_masks v_addr v_mwanted v_wrong v_after v_calls v_oneB v_twoB v_mF) sz [.ref a_mo, .int x0] (qX12_tick D cI cB a_mo a_mem a_mks a_mr a_cnt a_wd a_one a_two a_mmade a_mrest a_old v_thrown v_mask v_key v_wait v_problem v_code v_length v_cond v_masks v_addr v_mwanted v_wrong v_after v_calls v_oneB v_twoB v_mF x0) 0 0 := by
  refine met_std (by decide) rfl (Nat.le_of_ble_eq_true rfl) ?_
  intro p e s m below meth c A ls H hx hb hr hml hown hts hlocks hA hP hK hD hS hNW hl
  have hl : lv_has ls 4 [(0, .ref a_mo), (1, .int x0)] := hl
  have q_0 := hts _ (List.mem_cons_of_mem _ wd_1040)
  have q_1 := hts _ (List.mem_cons_of_mem _ wd_788)
  have q_2 := hts _ (List.mem_cons_of_mem _ wd_1038)
  refine lv_aload_n hx hb dX12_tick_0 rfl (lv_at hl 0 rfl) ?_
  refine lv_iload_n hx hb dX12_tick_1 rfl (lv_at hl 1 rfl) ?_
  have J_17 : ∀ (m_17 : Int32), m_17 = (if x0 < 0 then (1) else (if x0 ≤ 1000000 then (0) else (1))) → ∀ (H : Heap) (locs : List Loc), va_P D vwCl (wX12_tick cI cB a_mo a_mem a_mks a_mr a_cnt a_wd a_one a_two a_mmade a_mrest a_old v_thrown v_mask v_key v_wait v_problem v_code v_length v_cond v_masks v_addr v_mwanted v_wrong v_after v_calls v_oneB v_twoB v_mF) H → va_D A (wX12_tick cI cB a_mo a_mem a_mks a_mr a_cnt a_wd a_one a_two a_mmade a_mrest a_old v_thrown v_mask v_key v_wait v_problem v_code v_length v_cond v_masks v_addr v_mwanted v_wrong v_after v_calls v_oneB v_twoB v_mF) → va_S A s.heap H locs → ∀ (ls : Array Slot), lv_has ls 4 [(0, .ref a_mo), (1, .int x0)] → W p l e rmX12_tick s m ([.ref a_mo, .int x0] : List Value).toArray below meth c H locs 0 0 (MQ below (qX12_tick D cI cB a_mo a_mem a_mks a_mr a_cnt a_wd a_one a_two a_mmade a_mrest a_old v_thrown v_mask v_key v_wait v_problem v_code v_length v_cond v_masks v_addr v_mwanted v_wrong v_after v_calls v_oneB v_twoB v_mF x0 A) ([.ref a_mo, .int x0] : List Value).toArray s 0 0 A) (F0 m 17 ls [.int m_17, .ref a_mo]) := by
    intro m_17 em_17 H locs hP hD hS ls hl
    try dsimp only at em_17
    have zm_17_0 : m_17 = 0 ∨ m_17 = 1 := by rw [em_17]; (try dsimp only); (repeat' split) <;> first | exact Or.inl rfl | exact Or.inr rfl
    refine va_put (D := D) (ci := 12) (v := .int m_17) (ty := .int) (C := RX12) (T := TX12) (N := 26) hx hb hts in_X12 tyX12 tyX12_ok nmX12 hown hK hP hD hS 0 rfl rfl 0 (by decide) q_1 (fun _ h9 => h9) rfl (by decide +kernel) rfl rfl (Nat.le_of_ble_eq_true rfl) dX12_tick_17 (fun H locs hP hD hS => ?_)
    have hP : va_P D vwCl (wX12_tick cI cB a_mo a_mem a_mks a_mr a_cnt a_wd a_one a_two a_mmade a_mrest a_old m_17 v_mask v_key v_wait v_problem v_code v_length v_cond v_masks v_addr v_mwanted v_wrong v_after v_calls v_oneB v_twoB v_mF) H := hP
    have hD : va_D A (wX12_tick cI cB a_mo a_mem a_mks a_mr a_cnt a_wd a_one a_two a_mmade a_mrest a_old m_17 v_mask v_key v_wait v_problem v_code v_length v_cond v_masks v_addr v_mwanted v_wrong v_after v_calls v_oneB v_twoB v_mF) := hD
    refine lv_aload_n hx hb dX12_tick_20 rfl (lv_at hl 0 rfl) ?_
    refine va_get (D := D) (ci := 12) (v := .int m_17) (C := RX12) (T := TX12) (N := 26) hx hb hts in_X12 hown hK hP 0 rfl rfl 0 (by decide) q_1 (fun _ h9 => h9) rfl dX12_tick_21 ?_
    refine lv_if_le (tgt := 29) hx hb dX12_tick_24 (by decide) (fun c_24 => ?_) (fun c_24 => ?_)
    · skip
      refine lv_aload_n hx hb dX12_tick_29 rfl (lv_at hl 0 rfl) ?_
      refine lv_bipush (v := 80) hx hb dX12_tick_30 (by decide) ?_
      refine lv_iconst (v := 4) hx hb dX12_tick_32 (by decide) ?_
      have hPc : va_P D vwCl (wX12_fetch cI cB a_mo a_mem a_mks a_mr a_cnt a_wd a_one a_two a_mmade a_mrest a_old m_17 v_mask v_key v_wait v_problem v_code v_length v_cond v_masks v_addr v_mwanted v_wrong v_after v_calls v_oneB v_twoB v_mF) H := hP.sub [0, 1] rfl
      have hDc : va_D A (wX12_fetch cI cB a_mo a_mem a_mks a_mr a_cnt a_wd a_one a_two a_mmade a_mrest a_old m_17 v_mask v_key v_wait v_problem v_code v_length v_cond v_masks v_addr v_mwanted v_wrong v_after v_calls v_oneB v_twoB v_mF) := hD.sub [0, 1] (by decide) rfl
      have hFc := va_free (wc := (wX12_fetch cI cB a_mo a_mem a_mks a_mr a_cnt a_wd a_one a_two a_mmade a_mrest a_old m_17 v_mask v_key v_wait v_problem v_code v_length v_cond v_masks v_addr v_mwanted v_wrong v_after v_calls v_oneB v_twoB v_mF)) hD hS hA [0, 1] rfl
      refine va_calll (va_runV (As := [.int 80, .int 4]) (rest := []) ⟨hx, hb, hml, hown, hts⟩ (kX12_fetch l D cI cB a_mo a_mem a_mks a_mr a_cnt a_wd a_one a_two a_mmade a_mrest a_old H.size m_17 v_mask v_key v_wait v_problem v_code v_length v_cond v_masks v_addr v_mwanted v_wrong v_after v_calls v_oneB v_twoB v_mF 80 4 (by first | with_reducible assumption | decide | (unfold vp_in; decide))) (cwV 2 hts (gd_V wd_830 wd_831 wd_832 wd_807 wd_819) rfl rfl rfl hdX12_fetch ⟨Nat.le_of_ble_eq_true rfl, Nat.le_of_ble_eq_true rfl⟩) (preV_std (ci := 12) (q0 := 0) hPc hK hDc hNW rfl rfl) rfl rfl hl.1 rfl (lv_room (Nat.le_of_ble_eq_true rfl)) dX12_tick_33 ⟨Nat.zero_le _, Nat.zero_le _⟩) hS (fun q _ h => hFc q h) hFc (fun r_33 u_33 t9 H1 locs ht9 hvm9 hw9 hB9 hz9 hk9 hS => ?_)
      have er_33 : r_33 = fX12_fetch 80 4 v_mF := hw9
      obtain ⟨hP, hD⟩ := back_std (w1 := (wX12_fetch cI cB a_mo a_mem a_mks a_mr a_cnt a_wd a_one a_two a_mmade a_mrest a_old m_17 v_mask v_key v_wait v_problem v_code v_length v_cond v_masks v_addr v_mwanted v_wrong v_after v_calls v_oneB v_twoB v_mF)) (w2 := (wX12_tick cI cB a_mo a_mem a_mks a_mr a_cnt a_wd a_one a_two a_mmade a_mrest a_old m_17 v_mask v_key v_wait v_problem v_code v_length v_cond v_masks v_addr v_mwanted v_wrong v_after v_calls v_oneB v_twoB v_mF)) (wr := []) hP hD [0, 1] [] [0, 1] rfl rfl (by decide) (by decide) hk9 hFc hB9 ht9 (by decide) rfl
      clear hB9 hk9 hz9 hvm9 ht9 hFc hPc hDc
      generalize H1 = H at hP hS ⊢
      refine lv_l2i hx hb dX12_tick_36 rfl ?_
      refine lv_topi (fun x_37 ex_37 => ?_)
      refine lv_istore_n (lv' := [(2, .int x_37), (0, .ref a_mo), (1, .int x0)]) hx hb dX12_tick_37 rfl hl (by decide) rfl (fun ls hl => ?_)
      refine lv_iload_n hx hb dX12_tick_38 rfl (lv_at hl 0 rfl) ?_
      refine lv_iload_n hx hb dX12_tick_39 rfl (lv_at hl 2 rfl) ?_
      refine lv_isub hx hb dX12_tick_40 ?_
      refine lv_topi (fun x_41 ex_41 => ?_)
      refine lv_istore_n (lv' := [(3, .int x_41), (2, .int x_37), (0, .ref a_mo), (1, .int x0)]) hx hb dX12_tick_41 rfl hl (by decide) rfl (fun ls hl => ?_)
      refine lv_aload_n hx hb dX12_tick_42 rfl (lv_at hl 2 rfl) ?_
      refine lv_bipush (v := 80) hx hb dX12_tick_43 (by decide) ?_
      refine lv_iload_n hx hb dX12_tick_45 rfl (lv_at hl 0 rfl) ?_
      refine lv_i2l hx hb dX12_tick_46 rfl ?_
      refine lv_iconst (v := 4) hx hb dX12_tick_47 (by decide) ?_
      have hPc : va_P D vwCl (wX12_store cI cB a_mo a_mem a_mks a_mr a_cnt a_wd a_one a_two a_mmade a_mrest a_old m_17 v_mask v_key v_wait v_problem v_code v_length v_cond v_masks v_addr v_mwanted v_wrong v_after v_calls v_oneB v_twoB v_mF) H := hP.sub [0, 1] rfl
      have hDc : va_D A (wX12_store cI cB a_mo a_mem a_mks a_mr a_cnt a_wd a_one a_two a_mmade a_mrest a_old m_17 v_mask v_key v_wait v_problem v_code v_length v_cond v_masks v_addr v_mwanted v_wrong v_after v_calls v_oneB v_twoB v_mF) := hD.sub [0, 1] (by decide) rfl
      have hFc := va_free (wc := (wX12_store cI cB a_mo a_mem a_mks a_mr a_cnt a_wd a_one a_two a_mmade a_mrest a_old m_17 v_mask v_key v_wait v_problem v_code v_length v_cond v_masks v_addr v_mwanted v_wrong v_after v_calls v_oneB v_twoB v_mF)) hD hS hA [0, 1] rfl
      refine va_callv (va_runV (As := [.int 80, .long (x_41 : Int32).toInt64, .int 4]) (rest := []) ⟨hx, hb, hml, hown, hts⟩ (kX12_store l D cI cB a_mo a_mem a_mks a_mr a_cnt a_wd a_one a_two a_mmade a_mrest a_old H.size m_17 v_mask v_key v_wait v_problem v_code v_length v_cond v_masks v_addr v_mwanted v_wrong v_after v_calls v_oneB v_twoB v_mF 80 ((x_41 : Int32).toInt64) 4 (by first | with_reducible assumption | decide | (unfold vp_in; decide))) (cwV 3 hts (gd_V wd_826 wd_827 wd_828 wd_807 wd_820) rfl rfl rfl hdX12_store ⟨Nat.le_of_ble_eq_true rfl, Nat.le_of_ble_eq_true rfl⟩) (preV_std (ci := 12) (q0 := 0) hPc hK hDc hNW rfl rfl) rfl rfl hl.1 rfl (lv_room (Nat.le_of_ble_eq_true rfl)) dX12_tick_48 ⟨Nat.zero_le _, Nat.zero_le _⟩) hS (fun q _ h => hFc q h) hFc (fun u_48 t9 H1 locs ht9 hvm9 hw9 hB9 hz9 hk9 hS => ?_)
      have eu_48 : u_48 = fX12_store 80 ((x_41 : Int32).toInt64) 4 v_mF := hw9
      obtain ⟨hP, hD⟩ := back_std (w1 := (wX12_store cI cB a_mo a_mem a_mks a_mr a_cnt a_wd a_one a_two a_mmade a_mrest a_old m_17 v_mask v_key v_wait v_problem v_code v_length v_cond v_masks v_addr v_mwanted v_wrong v_after v_calls v_oneB v_twoB u_48)) (w2 := (wX12_tick cI cB a_mo a_mem a_mks a_mr a_cnt a_wd a_one a_two a_mmade a_mrest a_old m_17 v_mask v_key v_wait v_problem v_code v_length v_cond v_masks v_addr v_mwanted v_wrong v_after v_calls v_oneB v_twoB u_48)) (wr := []) hP hD [0, 1] [] [0, 1] rfl rfl (by decide) (by decide) hk9 hFc hB9 ht9 (by decide) rfl
      clear hB9 hk9 hz9 hvm9 ht9 hFc hPc hDc
      generalize H1 = H at hP hS ⊢
      refine lv_iload_n hx hb dX12_tick_51 rfl (lv_at hl 1 rfl) ?_
      refine lv_if_lt (tgt := 71) hx hb dX12_tick_52 (by decide) (fun c_52 => ?_) (fun c_52 => ?_)
      · skip
        refine lv_iload_n hx hb dX12_tick_71 rfl (lv_at hl 0 rfl) ?_
        have hf9 : (x_41, (m_17, v_mwanted, u_48)) = fX12_tick x0 v_thrown v_mwanted v_mF := by subst ex_41; subst ex_37; simp only [fX12_tick, ← em_17, ← er_33, ← eu_48]; (try simp only [if_pos c_24, if_pos c_52])
        exact W.iret hx hb hr (fun t9 ht9 hW9 => ⟨⟨x_41, (m_17, v_mwanted, u_48), rfl, ⟨by rw [← hf9], by rw [← hf9]⟩, ⟨by rw [ht9]; exact hP, va_K.moved hW9.alike hK, hD⟩⟩, hS.F ht9⟩) hS.2.2 dX12_tick_72
      · skip
        refine lv_iload_n hx hb dX12_tick_55 rfl (lv_at hl 0 rfl) ?_
        refine lv_if_ge (tgt := 71) hx hb dX12_tick_56 (by decide) (fun c_56 => ?_) (fun c_56 => ?_)
        · skip
          refine lv_iload_n hx hb dX12_tick_71 rfl (lv_at hl 0 rfl) ?_
          have hf9 : (x_41, (m_17, v_mwanted, u_48)) = fX12_tick x0 v_thrown v_mwanted v_mF := by subst ex_41; subst ex_37; simp only [fX12_tick, ← em_17, ← er_33, ← eu_48]; (try simp only [if_pos c_24, if_neg c_52, if_pos c_56])
          exact W.iret hx hb hr (fun t9 ht9 hW9 => ⟨⟨x_41, (m_17, v_mwanted, u_48), rfl, ⟨by rw [← hf9], by rw [← hf9]⟩, ⟨by rw [ht9]; exact hP, va_K.moved hW9.alike hK, hD⟩⟩, hS.F ht9⟩) hS.2.2 dX12_tick_72
        · skip
          refine lv_aload_n hx hb dX12_tick_59 rfl (lv_at hl 2 rfl) ?_
          refine lv_aload_n hx hb dX12_tick_60 rfl (lv_at hl 2 rfl) ?_
          refine va_get (D := D) (ci := 12) (v := .int v_mwanted) (C := RX12) (T := TX12) (N := 26) hx hb hts in_X12 hown hK hP 0 rfl rfl 13 (by decide) q_2 (fun _ h9 => h9) rfl dX12_tick_61 ?_
          refine lv_sipush (v := 128) hx hb dX12_tick_64 (by decide) ?_
          refine lv_ior hx hb dX12_tick_67 ?_
          refine lv_topi (fun x_68 ex_68 => ?_)
          refine va_put (D := D) (ci := 12) (v := .int x_68) (ty := .int) (C := RX12) (T := TX12) (N := 26) hx hb hts in_X12 tyX12 tyX12_ok nmX12 hown hK hP hD hS 0 rfl rfl 13 (by decide) q_2 (fun _ h9 => h9) rfl (by decide +kernel) rfl rfl (Nat.le_of_ble_eq_true rfl) dX12_tick_68 (fun H locs hP hD hS => ?_)
          have hP : va_P D vwCl (wX12_tick cI cB a_mo a_mem a_mks a_mr a_cnt a_wd a_one a_two a_mmade a_mrest a_old m_17 v_mask v_key v_wait v_problem v_code v_length v_cond v_masks v_addr x_68 v_wrong v_after v_calls v_oneB v_twoB u_48) H := hP
          have hD : va_D A (wX12_tick cI cB a_mo a_mem a_mks a_mr a_cnt a_wd a_one a_two a_mmade a_mrest a_old m_17 v_mask v_key v_wait v_problem v_code v_length v_cond v_masks v_addr x_68 v_wrong v_after v_calls v_oneB v_twoB u_48) := hD
          refine lv_iload_n hx hb dX12_tick_71 rfl (lv_at hl 0 rfl) ?_
          have hf9 : (x_41, (m_17, x_68, u_48)) = fX12_tick x0 v_thrown v_mwanted v_mF := by subst ex_68; subst ex_41; subst ex_37; simp only [fX12_tick, ← em_17, ← er_33, ← eu_48]; (try simp only [if_pos c_24, if_neg c_52, if_neg c_56])
          exact W.iret hx hb hr (fun t9 ht9 hW9 => ⟨⟨x_41, (m_17, x_68, u_48), rfl, ⟨by rw [← hf9], by rw [← hf9]⟩, ⟨by rw [ht9]; exact hP, va_K.moved hW9.alike hK, hD⟩⟩, hS.F ht9⟩) hS.2.2 dX12_tick_72
    · skip
      refine lv_iconst (v := 0) hx hb dX12_tick_27 (by decide) ?_
      have hf9 : (0, (m_17, v_mwanted, v_mF)) = fX12_tick x0 v_thrown v_mwanted v_mF := by simp only [fX12_tick, ← em_17]; (try simp only [if_neg c_24])
      exact W.iret hx hb hr (fun t9 ht9 hW9 => ⟨⟨0, (m_17, v_mwanted, v_mF), rfl, ⟨by rw [← hf9], by rw [← hf9]⟩, ⟨by rw [ht9]; exact hP, va_K.moved hW9.alike hK, hD⟩⟩, hS.F ht9⟩) hS.2.2 dX12_tick_28
  refine lv_if_lt (tgt := 12) hx hb dX12_tick_2 (by decide) (fun c_2 => ?_) (fun c_2 => ?_)
  · skip
    refine lv_iconst (v := 1) hx hb dX12_tick_12 (by decide) ?_
    refine lv_goto (tgt := 17) hx hb dX12_tick_13 (by decide) ?_
    exact J_17 1 (by (try simp only [if_pos c_2])) _ _ hP hD hS ls (lv_sub hl [0, 1] rfl)
  · skip
    refine lv_iload_n hx hb dX12_tick_5 rfl (lv_at hl 1 rfl) ?_
    refine lv_ldcw (v := 1000000) hx hb hown q_0 dX12_tick_6 ?_
    refine lv_icmp_le (tgt := 16) hx hb dX12_tick_9 (by decide) (fun c_9 => ?_) (fun c_9 => ?_)
    · skip
      refine lv_iconst (v := 0) hx hb dX12_tick_16 (by decide) ?_
      exact J_17 0 (by (try simp only [if_neg c_2, if_pos c_9])) _ _ hP hD hS ls (lv_sub hl [0, 1] rfl)
    · skip
      refine lv_iconst (v := 1) hx hb dX12_tick_12 (by decide) ?_
      refine lv_goto (tgt := 17) hx hb dX12_tick_13 (by decide) ?_
      exact J_17 1 (by (try simp only [if_neg c_2, if_neg c_9])) _ _ hP hD hS ls (lv_sub hl [0, 1] rfl)
theorem hdX12_tick : yX12_tick.cls = RX12 ∧ yX12_tick.cls ≠ "java/lang/invoke/MethodHandle" ∧ yX12_tick.cls ≠ "java/lang/invoke/VarHandle" ∧ (parseMethodDescriptor yX12_tick.desc).map (fun d => d.parameters.length) = some 1 := by decide +kernel
noncomputable def fX12_comes (v_mask : Int32) (v_mwanted : Int32) : Int32 :=
  if v_mwanted = 0 then (0) else (if (v_mask &&& 1) = 1 then (1) else (0))
theorem zX12_comes (v_mask : Int32) (v_mwanted : Int32) : (fX12_comes v_mask v_mwanted) = 0 ∨ (fX12_comes v_mask v_mwanted) = 1 := by simp only [fX12_comes]; (repeat' split) <;> first | exact Or.inl rfl | exact Or.inr rfl
abbrev wX12_comes (cI cB : ClassId) (a_mo a_mem a_mks a_mr a_cnt a_wd a_one a_two a_mmade a_mrest a_old : Nat) (v_thrown : Int32) (v_mask : Int32) (v_key : Int32) (v_wait : Int32) (v_problem : Int32) (v_code : Int32) (v_length : Int32) (v_cond : Int32) (v_masks : Int32) (v_addr : Int32) (v_mwanted : Int32) (v_wrong : Int32) (v_after : Int32) (v_calls : Int32) (v_oneB : Int32) (v_twoB : Int32) : va_W := [(a_mo, .inr (12, [.int v_thrown, .ref a_mem, .ref a_mks, .ref a_mr, .int v_mask, .int v_key, .int v_wait, .int v_problem, .int v_code, .int v_length, .int v_cond, .int v_masks, .int v_addr, .int v_mwanted, .ref a_cnt, .ref a_wd, .int v_wrong, .int v_after, .int v_calls, .ref a_one, .int v_oneB, .ref a_two, .int v_twoB, .ref a_mmade, .ref a_mrest, .ref a_old]))]
abbrev rmX12_comes : Room := { frames := 0, cells := 0, slots := 0, locals := 0 }
abbrev qX12_comes (D : va_G) (cI cB : ClassId) (a_mo a_mem a_mks a_mr a_cnt a_wd a_one a_two a_mmade a_mrest a_old : Nat) (v_thrown : Int32) (v_mask : Int32) (v_key : Int32) (v_wait : Int32) (v_problem : Int32) (v_code : Int32) (v_length : Int32) (v_cond : Int32) (v_masks : Int32) (v_addr : Int32) (v_mwanted : Int32) (v_wrong : Int32) (v_after : Int32) (v_calls : Int32) (v_oneB : Int32) (v_twoB : Int32) : (Nat → Prop) → Array Value → State → Outcome → State → Prop := fun A9 => va_Qi (fun (r9 : Int32) (u9 : Unit) => r9 = fX12_comes v_mask v_mwanted) (fun u9 t9 => atW D (TYS cI cB) A9 (wX12_comes cI cB a_mo a_mem a_mks a_mr a_cnt a_wd a_one a_two a_mmade a_mrest a_old v_thrown v_mask v_key v_wait v_problem v_code v_length v_cond v_masks v_addr v_mwanted v_wrong v_after v_calls v_oneB v_twoB) t9) A9
set_option maxHeartbeats 4000000 in
set_option maxRecDepth 100000 in
theorem kX12_comes (l : Launch) (D : va_G) (cI cB : ClassId) (a_mo a_mem a_mks a_mr a_cnt a_wd a_one a_two a_mmade a_mrest a_old : Nat) (sz : Nat) (v_thrown : Int32) (v_mask : Int32) (v_key : Int32) (v_wait : Int32) (v_problem : Int32) (v_code : Int32) (v_length : Int32) (v_cond : Int32) (v_masks : Int32) (v_addr : Int32) (v_mwanted : Int32) (v_wrong : Int32) (v_after : Int32) (v_calls : Int32) (v_oneB : Int32) (v_twoB : Int32) : MetW l yX12_comes (WK yX12_comes cX12_comes 1 (some .boolean)) rmX12_comes D (TYS cI cB) (wX12_comes cI cB a_mo a_mem a_mks a_mr a_cnt a_wd a_one a_two a_mmade a_mrest a_old v_thrown v_mask v_key v_wait v_problem v_code v_length v_cond v_masks v_addr v_mwanted v_wrong v_after v_calls v_oneB v_twoB) sz [.ref a_mo] (qX12_comes D cI cB a_mo a_mem a_mks a_mr a_cnt a_wd a_one a_two a_mmade a_mrest a_old v_thrown v_mask v_key v_wait v_problem v_code v_length v_cond v_masks v_addr v_mwanted v_wrong v_after v_calls v_oneB v_twoB) 0 0 := by
  refine met_std (by decide) rfl (Nat.le_of_ble_eq_true rfl) ?_
  intro p e s m below meth c A ls H hx hb hr hml hown hts hlocks hA hP hK hD hS hNW hl
  have hl : lv_has ls 1 [(0, .ref a_mo)] := hl
  have q_0 := hts _ (List.mem_cons_of_mem _ wd_1038)
  have q_1 := hts _ (List.mem_cons_of_mem _ wd_796)
  refine lv_aload_n hx hb dX12_comes_0 rfl (lv_at hl 0 rfl) ?_
  refine va_get (D := D) (ci := 12) (v := .int v_mwanted) (C := RX12) (T := TX12) (N := 26) hx hb hts in_X12 hown hK hP 0 rfl rfl 13 (by decide) q_0 (fun _ h9 => h9) rfl dX12_comes_1 ?_
  refine lv_if_eq (tgt := 21) hx hb dX12_comes_4 (by decide) (fun c_4 => ?_) (fun c_4 => ?_)
  · skip
    refine lv_iconst (v := 0) hx hb dX12_comes_21 (by decide) ?_
    have hf9 : 0 = fX12_comes v_mask v_mwanted := by simp only [fX12_comes]; (try simp only [if_pos c_4])
    exact W.zret hx hb hr (by decide) (fun t9 ht9 hW9 => ⟨⟨0, (), rfl, hf9, ⟨by rw [ht9]; exact hP, va_K.moved hW9.alike hK, hD⟩⟩, hS.F ht9⟩) hS.2.2 dX12_comes_22
  · skip
    refine lv_aload_n hx hb dX12_comes_7 rfl (lv_at hl 0 rfl) ?_
    refine va_get (D := D) (ci := 12) (v := .int v_mask) (C := RX12) (T := TX12) (N := 26) hx hb hts in_X12 hown hK hP 0 rfl rfl 4 (by decide) q_1 (fun _ h9 => h9) rfl dX12_comes_8 ?_
    refine lv_iconst (v := 1) hx hb dX12_comes_11 (by decide) ?_
    refine lv_iand hx hb dX12_comes_12 ?_
    refine lv_iconst (v := 1) hx hb dX12_comes_13 (by decide) ?_
    refine lv_icmp_ne (tgt := 21) hx hb dX12_comes_14 (by decide) (fun c_14 => ?_) (fun c_14 => ?_)
    · skip
      refine lv_iconst (v := 0) hx hb dX12_comes_21 (by decide) ?_
      have hf9 : 0 = fX12_comes v_mask v_mwanted := by simp only [fX12_comes]; (try simp only [if_neg c_4, if_neg c_14])
      exact W.zret hx hb hr (by decide) (fun t9 ht9 hW9 => ⟨⟨0, (), rfl, hf9, ⟨by rw [ht9]; exact hP, va_K.moved hW9.alike hK, hD⟩⟩, hS.F ht9⟩) hS.2.2 dX12_comes_22
    · skip
      refine lv_iconst (v := 1) hx hb dX12_comes_17 (by decide) ?_
      refine lv_goto (tgt := 22) hx hb dX12_comes_18 (by decide) ?_
      have hf9 : 1 = fX12_comes v_mask v_mwanted := by simp only [fX12_comes]; (try simp only [if_neg c_4, if_pos c_14])
      exact W.zret hx hb hr (by decide) (fun t9 ht9 hW9 => ⟨⟨1, (), rfl, hf9, ⟨by rw [ht9]; exact hP, va_K.moved hW9.alike hK, hD⟩⟩, hS.F ht9⟩) hS.2.2 dX12_comes_22
theorem hdX12_comes : yX12_comes.cls = RX12 ∧ yX12_comes.cls ≠ "java/lang/invoke/MethodHandle" ∧ yX12_comes.cls ≠ "java/lang/invoke/VarHandle" ∧ (parseMethodDescriptor yX12_comes.desc).map (fun d => d.parameters.length) = some 0 := by decide +kernel
noncomputable def fX12_waits (v_thrown : Int32) (v_mask : Int32) (v_wait : Int32) (v_mwanted : Int32) : (Int32 × Int32) :=
  if v_wait = 0 then ((0, 0)) else (let r_13 := fX12_comes v_mask v_mwanted; if r_13 = 0 then ((1, 0)) else ((0, 0)))
theorem zX12_waits (v_thrown : Int32) (v_mask : Int32) (v_wait : Int32) (v_mwanted : Int32) : (fX12_waits v_thrown v_mask v_wait v_mwanted).1 = 0 ∨ (fX12_waits v_thrown v_mask v_wait v_mwanted).1 = 1 := by simp only [fX12_waits]; (repeat' split) <;> first | exact Or.inl rfl | exact Or.inr rfl
abbrev wX12_waits (cI cB : ClassId) (a_mo a_mem a_mks a_mr a_cnt a_wd a_one a_two a_mmade a_mrest a_old : Nat) (v_thrown : Int32) (v_mask : Int32) (v_key : Int32) (v_wait : Int32) (v_problem : Int32) (v_code : Int32) (v_length : Int32) (v_cond : Int32) (v_masks : Int32) (v_addr : Int32) (v_mwanted : Int32) (v_wrong : Int32) (v_after : Int32) (v_calls : Int32) (v_oneB : Int32) (v_twoB : Int32) : va_W := [(a_mo, .inr (12, [.int v_thrown, .ref a_mem, .ref a_mks, .ref a_mr, .int v_mask, .int v_key, .int v_wait, .int v_problem, .int v_code, .int v_length, .int v_cond, .int v_masks, .int v_addr, .int v_mwanted, .ref a_cnt, .ref a_wd, .int v_wrong, .int v_after, .int v_calls, .ref a_one, .int v_oneB, .ref a_two, .int v_twoB, .ref a_mmade, .ref a_mrest, .ref a_old]))]
abbrev rmX12_waits : Room := { frames := 1, cells := 0, slots := 0, locals := 20 }
abbrev qX12_waits (D : va_G) (cI cB : ClassId) (a_mo a_mem a_mks a_mr a_cnt a_wd a_one a_two a_mmade a_mrest a_old : Nat) (v_thrown : Int32) (v_mask : Int32) (v_key : Int32) (v_wait : Int32) (v_problem : Int32) (v_code : Int32) (v_length : Int32) (v_cond : Int32) (v_masks : Int32) (v_addr : Int32) (v_mwanted : Int32) (v_wrong : Int32) (v_after : Int32) (v_calls : Int32) (v_oneB : Int32) (v_twoB : Int32) : (Nat → Prop) → Array Value → State → Outcome → State → Prop := fun A9 => va_Qi (fun (r9 : Int32) (u9 : Int32) => r9 = (fX12_waits v_thrown v_mask v_wait v_mwanted).1 ∧ u9 = (fX12_waits v_thrown v_mask v_wait v_mwanted).2) (fun u9 t9 => atW D (TYS cI cB) A9 (wX12_waits cI cB a_mo a_mem a_mks a_mr a_cnt a_wd a_one a_two a_mmade a_mrest a_old u9 v_mask v_key v_wait v_problem v_code v_length v_cond v_masks v_addr v_mwanted v_wrong v_after v_calls v_oneB v_twoB) t9) A9
set_option maxHeartbeats 4000000 in
set_option maxRecDepth 100000 in
theorem kX12_waits (l : Launch) (D : va_G) (cI cB : ClassId) (a_mo a_mem a_mks a_mr a_cnt a_wd a_one a_two a_mmade a_mrest a_old : Nat) (sz : Nat) (v_thrown : Int32) (v_mask : Int32) (v_key : Int32) (v_wait : Int32) (v_problem : Int32) (v_code : Int32) (v_length : Int32) (v_cond : Int32) (v_masks : Int32) (v_addr : Int32) (v_mwanted : Int32) (v_wrong : Int32) (v_after : Int32) (v_calls : Int32) (v_oneB : Int32) (v_twoB : Int32) : MetW l yX12_waits (WK yX12_waits cX12_waits 1 (some .boolean)) rmX12_waits D (TYS cI cB) (wX12_waits cI cB a_mo a_mem a_mks a_mr a_cnt a_wd a_one a_two a_mmade a_mrest a_old v_thrown v_mask v_key v_wait v_problem v_code v_length v_cond v_masks v_addr v_mwanted v_wrong v_after v_calls v_oneB v_twoB) sz [.ref a_mo] (qX12_waits D cI cB a_mo a_mem a_mks a_mr a_cnt a_wd a_one a_two a_mmade a_mrest a_old v_thrown v_mask v_key v_wait v_problem v_code v_length v_cond v_masks v_addr v_mwanted v_wrong v_after v_calls v_oneB v_twoB) 0 0 := by
  refine met_std (by decide) rfl (Nat.le_of_ble_eq_true rfl) ?_
  intro p e s m below meth c A ls H hx hb hr hml hown hts hlocks hA hP hK hD hS hNW hl
  have hl : lv_has ls 1 [(0, .ref a_mo)] := hl
  have q_0 := hts _ (List.mem_cons_of_mem _ wd_788)
  have q_1 := hts _ (List.mem_cons_of_mem _ wd_798)
  refine lv_aload_n hx hb dX12_waits_0 rfl (lv_at hl 0 rfl) ?_
  refine lv_iconst (v := 0) hx hb dX12_waits_1 (by decide) ?_
  refine va_put (D := D) (ci := 12) (v := .int 0) (ty := .int) (C := RX12) (T := TX12) (N := 26) hx hb hts in_X12 tyX12 tyX12_ok nmX12 hown hK hP hD hS 0 rfl rfl 0 (by decide) q_0 (fun _ h9 => h9) rfl (by decide +kernel) rfl rfl (Nat.le_of_ble_eq_true rfl) dX12_waits_2 (fun H locs hP hD hS => ?_)
  have hP : va_P D vwCl (wX12_waits cI cB a_mo a_mem a_mks a_mr a_cnt a_wd a_one a_two a_mmade a_mrest a_old 0 v_mask v_key v_wait v_problem v_code v_length v_cond v_masks v_addr v_mwanted v_wrong v_after v_calls v_oneB v_twoB) H := hP
  have hD : va_D A (wX12_waits cI cB a_mo a_mem a_mks a_mr a_cnt a_wd a_one a_two a_mmade a_mrest a_old 0 v_mask v_key v_wait v_problem v_code v_length v_cond v_masks v_addr v_mwanted v_wrong v_after v_calls v_oneB v_twoB) := hD
  refine lv_aload_n hx hb dX12_waits_5 rfl (lv_at hl 0 rfl) ?_
  refine va_get (D := D) (ci := 12) (v := .int v_wait) (C := RX12) (T := TX12) (N := 26) hx hb hts in_X12 hown hK hP 0 rfl rfl 6 (by decide) q_1 (fun _ h9 => h9) rfl dX12_waits_6 ?_
  refine lv_if_eq (tgt := 23) hx hb dX12_waits_9 (by decide) (fun c_9 => ?_) (fun c_9 => ?_)
  · skip
    refine lv_iconst (v := 0) hx hb dX12_waits_23 (by decide) ?_
    have hf9 : (0, 0) = fX12_waits v_thrown v_mask v_wait v_mwanted := by simp only [fX12_waits]; (try simp only [if_pos c_9])
    exact W.zret hx hb hr (by decide) (fun t9 ht9 hW9 => ⟨⟨0, 0, rfl, ⟨by rw [← hf9], by rw [← hf9]⟩, ⟨by rw [ht9]; exact hP, va_K.moved hW9.alike hK, hD⟩⟩, hS.F ht9⟩) hS.2.2 dX12_waits_24
  · skip
    refine lv_aload_n hx hb dX12_waits_12 rfl (lv_at hl 0 rfl) ?_
    have hPc : va_P D vwCl (wX12_comes cI cB a_mo a_mem a_mks a_mr a_cnt a_wd a_one a_two a_mmade a_mrest a_old 0 v_mask v_key v_wait v_problem v_code v_length v_cond v_masks v_addr v_mwanted v_wrong v_after v_calls v_oneB v_twoB) H := hP.sub [0] rfl
    have hDc : va_D A (wX12_comes cI cB a_mo a_mem a_mks a_mr a_cnt a_wd a_one a_two a_mmade a_mrest a_old 0 v_mask v_key v_wait v_problem v_code v_length v_cond v_masks v_addr v_mwanted v_wrong v_after v_calls v_oneB v_twoB) := hD.sub [0] (by decide) rfl
    have hFc := va_free (wc := (wX12_comes cI cB a_mo a_mem a_mks a_mr a_cnt a_wd a_one a_two a_mmade a_mrest a_old 0 v_mask v_key v_wait v_problem v_code v_length v_cond v_masks v_addr v_mwanted v_wrong v_after v_calls v_oneB v_twoB)) hD hS hA [0] rfl
    refine va_calli (va_runV (As := []) (rest := []) ⟨hx, hb, hml, hown, hts⟩ (kX12_comes l D cI cB a_mo a_mem a_mks a_mr a_cnt a_wd a_one a_two a_mmade a_mrest a_old H.size 0 v_mask v_key v_wait v_problem v_code v_length v_cond v_masks v_addr v_mwanted v_wrong v_after v_calls v_oneB v_twoB ) (cwV 0 hts (gd_V wd_1042 wd_1043 wd_1044 wd_807 wd_1041) rfl rfl rfl hdX12_comes ⟨Nat.le_of_ble_eq_true rfl, Nat.le_of_ble_eq_true rfl⟩) (preV_std (ci := 12) (q0 := 0) hPc hK hDc hNW rfl rfl) rfl rfl hl.1 rfl (lv_room (Nat.le_of_ble_eq_true rfl)) dX12_waits_13 ⟨Nat.zero_le _, Nat.zero_le _⟩) hS (fun q _ h => hFc q h) hFc (fun r_13 u_13 t9 H1 locs ht9 hvm9 hw9 hB9 hz9 hk9 hS => ?_)
    have er_13 : r_13 = fX12_comes v_mask v_mwanted := hw9
    have zr_13 : r_13 = 0 ∨ r_13 = 1 := by rw [er_13]; exact zX12_comes _ _
    obtain ⟨hP, hD⟩ := back_std (w1 := (wX12_comes cI cB a_mo a_mem a_mks a_mr a_cnt a_wd a_one a_two a_mmade a_mrest a_old 0 v_mask v_key v_wait v_problem v_code v_length v_cond v_masks v_addr v_mwanted v_wrong v_after v_calls v_oneB v_twoB)) (w2 := (wX12_waits cI cB a_mo a_mem a_mks a_mr a_cnt a_wd a_one a_two a_mmade a_mrest a_old 0 v_mask v_key v_wait v_problem v_code v_length v_cond v_masks v_addr v_mwanted v_wrong v_after v_calls v_oneB v_twoB)) (wr := []) hP hD [0] [] [0] rfl rfl (by decide) (by decide) hk9 hFc hB9 ht9 (by decide) rfl
    clear hB9 hk9 hz9 hvm9 ht9 hFc hPc hDc
    generalize H1 = H at hP hS ⊢
    refine lv_if_ne (tgt := 23) hx hb dX12_waits_16 (by decide) (fun c_16 => ?_) (fun c_16 => ?_)
    · skip
      refine lv_iconst (v := 0) hx hb dX12_waits_23 (by decide) ?_
      have hf9 : (0, 0) = fX12_waits v_thrown v_mask v_wait v_mwanted := by simp only [fX12_waits, ← er_13]; (try simp only [if_neg c_9, if_neg c_16])
      exact W.zret hx hb hr (by decide) (fun t9 ht9 hW9 => ⟨⟨0, 0, rfl, ⟨by rw [← hf9], by rw [← hf9]⟩, ⟨by rw [ht9]; exact hP, va_K.moved hW9.alike hK, hD⟩⟩, hS.F ht9⟩) hS.2.2 dX12_waits_24
    · skip
      refine lv_iconst (v := 1) hx hb dX12_waits_19 (by decide) ?_
      refine lv_goto (tgt := 24) hx hb dX12_waits_20 (by decide) ?_
      have hf9 : (1, 0) = fX12_waits v_thrown v_mask v_wait v_mwanted := by simp only [fX12_waits, ← er_13]; (try simp only [if_neg c_9, if_pos c_16])
      exact W.zret hx hb hr (by decide) (fun t9 ht9 hW9 => ⟨⟨1, 0, rfl, ⟨by rw [← hf9], by rw [← hf9]⟩, ⟨by rw [ht9]; exact hP, va_K.moved hW9.alike hK, hD⟩⟩, hS.F ht9⟩) hS.2.2 dX12_waits_24
theorem hdX12_waits : yX12_waits.cls = RX12 ∧ yX12_waits.cls ≠ "java/lang/invoke/MethodHandle" ∧ yX12_waits.cls ≠ "java/lang/invoke/VarHandle" ∧ (parseMethodDescriptor yX12_waits.desc).map (fun d => d.parameters.length) = some 0 := by decide +kernel
