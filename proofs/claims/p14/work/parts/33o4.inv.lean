/-! memory stays bytes, the address 24 bits: what an instruction does -/
theorem mOk_iteh {c : Prop} [Decidable c] {x y : Nat → Int32} (h1 : c → mOk x) (h2 : ¬ c → mOk y) : mOk (if c then x else y) := by
  by_cases h : c
  · rw [if_pos h]; exact h1 h
  · rw [if_neg h]; exact h2 h
theorem in24_ite {c : Prop} [Decidable c] {x y : Int32} (h1 : in24 x) (h2 : in24 y) : in24 (if c then x else y) := by
  by_cases h : c
  · rw [if_pos h]; exact h1
  · rw [if_neg h]; exact h2
theorem m_decimals {x0 : Int32} {x1 : Int32} {x2 : Int32} {x3 : Int32} {x4 : Int32} {v_key : Int32} {v_cond : Int32} {v_masks : Int32} {v_wrong : Int32} {v_after : Int32} {v_oneB : Int32} {v_twoB : Int32} {v_mF : (Nat → Int32)} {v_mkF : (Nat → Int32)} {v_oneF : (Nat → Int32)} {v_twoF : (Nat → Int32)} {v_mmF : (Nat → Int32)} {v_resF : (Nat → Int32)} {v_oldF : (Nat → Int32)} (hl9 : 0 ≤ x1.toInt ∧ x1.toInt ≤ 15) (hm : 0 ≤ x2.toInt ∧ x2.toInt ≤ 15) (hw : 0 ≤ v_wrong) (h : mOk v_mF) : mOk (fX12_decimals x0 x1 x2 x3 x4 v_key v_cond v_masks v_wrong v_after v_oneB v_twoB v_mF v_mkF v_oneF v_twoF v_mmF v_resF v_oldF).2.2.2.2.2.1 := by
  obtain ⟨m19, e19⟩ : ∃ z : Int32, z = (if x0 = 252 then (1) else (if x0 = 253 then (1) else (0))) := ⟨_, rfl⟩
  obtain ⟨m39, e39⟩ : ∃ z : Int32, z = (if x0 = 249 then (0) else (1)) := ⟨_, rfl⟩
  obtain ⟨u39, eu39⟩ : ∃ z, z = fX12_look x3 (x1 + 1) m39 v_key v_wrong v_mkF := ⟨_, rfl⟩
  obtain ⟨u49, eu49⟩ : ∃ z, z = fX12_look x4 (x2 + 1) 0 v_key u39 v_mkF := ⟨_, rfl⟩
  obtain ⟨m74, e74⟩ : ∃ z : Int32, z = (if m19 = 0 then (u49) else (if 7 < x2 then (fX12_meet 6 u49) else (if x2 < x1 then (u49) else (fX12_meet 6 u49)))) := ⟨_, rfl⟩
  obtain ⟨U, eU⟩ : ∃ z, z = fX12_takeDecimal x4 (x2 + 1) 0 m74 v_oneB v_twoB v_mF v_oneF v_twoF := ⟨_, rfl⟩
  obtain ⟨M, eM⟩ : ∃ z : Int32 × Int32 × Int32 × (Nat → Int32) × (Nat → Int32), z = (if x0 = 248 then (U.1, U.2.1, U.2.2.1, U.2.2.2.1, U.2.2.2.2) else (if (if U.1 ≤ 0 then (0 : Int32) else 1) = 0 then (fX12_takeDecimal x3 (x1 + 1) 1 0 U.2.1 U.2.2.1 v_mF U.2.2.2.1 U.2.2.2.2).1 else U.1, (fX12_takeDecimal x3 (x1 + 1) 1 0 U.2.1 U.2.2.1 v_mF U.2.2.2.1 U.2.2.2.2).2.1, (fX12_takeDecimal x3 (x1 + 1) 1 0 U.2.1 U.2.2.1 v_mF U.2.2.2.1 U.2.2.2.2).2.2.1, (fX12_takeDecimal x3 (x1 + 1) 1 0 U.2.1 U.2.2.1 v_mF U.2.2.2.1 U.2.2.2.2).2.2.2.1, (fX12_takeDecimal x3 (x1 + 1) 1 0 U.2.1 U.2.2.1 v_mF U.2.2.2.1 U.2.2.2.2).2.2.2.2)) := ⟨_, rfl⟩
  obtain ⟨g, eg⟩ : ∃ z, z = LX12_decimals_155 x0 x2 x3 v_mF (msU (x2 + 1) 0 + 1) (M.1, 0) := ⟨_, rfl⟩
  have hu0 : 0 ≤ u49 := by rw [eu49, eu39]; exact look_nn' (look_nn' hw)
  have hn1 := p1_of (N := 15) (by decide) hl9
  simp only [fX12_decimals, ← e19, ← e39, ← eu39, ← eu49, ← e74, ← eU, ← eM, ← eg]
  simp only [apply_ite Prod.snd, apply_ite Prod.fst]
  refine mOk_iteh (fun c74 => ?_) (fun _ => h)
  have hu := dc_u hu0 e74 c74
  refine mOk_iteh (fun c155 => ?_) (fun _ => h)
  obtain ⟨d2, d1⟩ := dc_dig h (by rw [hu.2]; decide) eU eM eg c155
  refine mOk_iteh (fun c248 => ?_) (fun c248 => ?_)
  · exact m_afterDecimal hn1 (cp80 (L := LX12_decimals_211 M) (u := M.2.2.2.2) (fun _ _ => rfl) d2 _) h
  refine mOk_iteh (fun _ => ?_) (fun _ => ?_)
  · exact m_product hn1 (d1 c248) d2 h
  refine mOk_iteh (fun c253 => ?_) (fun _ => ?_)
  · exact m_quotient ⟨hm.1, dc_ml hu0 e19 e74 c74 (Or.inr c253), hl9.2⟩ (d1 c248) d2 h
  · exact m_sum hn1 (d1 c248) d2 h
theorem m_indexedOnes {x0 : Int32} {v_key : Int32} {v_length : Int32} {v_cond : Int32} {v_masks : Int32} {v_addr : Int32} {v_wrong : Int32} {v_after : Int32} {v_oneB : Int32} {v_twoB : Int32} {v_mF : (Nat → Int32)} {v_mkF : (Nat → Int32)} {v_mrF : (Nat → Int32)} {v_wdF : (Nat → Int32)} {v_oneF : (Nat → Int32)} {v_twoF : (Nat → Int32)} {v_mmF : (Nat → Int32)} (h : mOk v_mF) : mOk (fX12_indexedOnes x0 v_key v_length v_cond v_masks v_addr v_wrong v_after v_oneB v_twoB v_mF v_mkF v_mrF v_wdF v_oneF v_twoF v_mmF).2.2.2.2.2.2.1 := by
  simp only [fX12_indexedOnes, apply_ite Prod.snd, apply_ite Prod.fst]
  repeat' first | with_reducible refine mOk_ite ?_ ?_ | with_reducible exact h | with_reducible exact m_toMemory h | with_reducible exact m_toDecimal h
theorem a_indexedOnes {x0 : Int32} {v_key : Int32} {v_length : Int32} {v_cond : Int32} {v_masks : Int32} {v_addr : Int32} {v_wrong : Int32} {v_after : Int32} {v_oneB : Int32} {v_twoB : Int32} {v_mF : (Nat → Int32)} {v_mkF : (Nat → Int32)} {v_mrF : (Nat → Int32)} {v_wdF : (Nat → Int32)} {v_oneF : (Nat → Int32)} {v_twoF : (Nat → Int32)} {v_mmF : (Nat → Int32)} (h : in24 v_addr) : in24 (fX12_indexedOnes x0 v_key v_length v_cond v_masks v_addr v_wrong v_after v_oneB v_twoB v_mF v_mkF v_mrF v_wdF v_oneF v_twoF v_mmF).2.1 := by
  simp only [fX12_indexedOnes, apply_ite Prod.snd, apply_ite Prod.fst]
  repeat' first | with_reducible refine in24_ite ?_ ?_ | with_reducible exact h | with_reducible exact a_branchTo
theorem a_registers {x0 : Int32} {v_problem : Int32} {v_length : Int32} {v_cond : Int32} {v_masks : Int32} {v_addr : Int32} {v_wrong : Int32} {v_after : Int32} {v_calls : Int32} {v_mkF : (Nat → Int32)} {v_mrF : (Nat → Int32)} {v_wdF : (Nat → Int32)} (h : in24 v_addr) : in24 (fX12_registers x0 v_problem v_length v_cond v_masks v_addr v_wrong v_after v_calls v_mkF v_mrF v_wdF).2.2.1 := by
  simp only [fX12_registers, apply_ite Prod.snd, apply_ite Prod.fst]
  repeat' first | with_reducible refine in24_ite ?_ ?_ | with_reducible exact h | with_reducible exact a_branchTo
theorem a_loop {x0 : Int32} {x1 : Int32} {x2 : Int32} {x3 : Int32} {v_addr : Int32} {v_mrF : (Nat → Int32)} (h : in24 v_addr) : in24 (fX12_loop x0 x1 x2 x3 v_addr v_mrF).1 := by
  simp only [fX12_loop, apply_ite Prod.snd, apply_ite Prod.fst]
  repeat' first | with_reducible refine in24_ite ?_ ?_ | with_reducible exact h | with_reducible exact a_branchTo
theorem m_stored {x0 : Int32} {v_mask : Int32} {v_key : Int32} {v_wait : Int32} {v_problem : Int32} {v_code : Int32} {v_length : Int32} {v_cond : Int32} {v_masks : Int32} {v_addr : Int32} {v_wrong : Int32} {v_after : Int32} {v_mF : (Nat → Int32)} {v_mkF : (Nat → Int32)} {v_mrF : (Nat → Int32)} {v_wdF : (Nat → Int32)} (hW : wdOk v_wdF) (h : mOk v_mF) : mOk (fX12_stored x0 v_mask v_key v_wait v_problem v_code v_length v_cond v_masks v_addr v_wrong v_after v_mF v_mkF v_mrF v_wdF).2.2.2.2.2.2.2.2.2.2.2.1 := by
  have hi : byI (v_wdF (1 : Int32).toNatClampNeg) := hW _ (by decide)
  simp only [fX12_stored, apply_ite Prod.snd, apply_ite Prod.fst]
  repeat' first | with_reducible refine mOk_ite ?_ ?_ | with_reducible exact h | with_reducible exact m_many h | with_reducible exact m_withByte hi h
theorem a_stored {x0 : Int32} {v_mask : Int32} {v_key : Int32} {v_wait : Int32} {v_problem : Int32} {v_code : Int32} {v_length : Int32} {v_cond : Int32} {v_masks : Int32} {v_addr : Int32} {v_wrong : Int32} {v_after : Int32} {v_mF : (Nat → Int32)} {v_mkF : (Nat → Int32)} {v_mrF : (Nat → Int32)} {v_wdF : (Nat → Int32)} (h : in24 v_addr) : in24 (fX12_stored x0 v_mask v_key v_wait v_problem v_code v_length v_cond v_masks v_addr v_wrong v_after v_mF v_mkF v_mrF v_wdF).2.2.2.2.2.2.2.2.1 := by
  simp only [fX12_stored, apply_ite Prod.snd, apply_ite Prod.fst]
  repeat' first | with_reducible refine in24_ite ?_ ?_ | with_reducible exact h | with_reducible exact a_loop h | with_reducible exact a_become
theorem m_rowsOfBytes {x0 : Int32} {v_key : Int32} {v_cond : Int32} {v_masks : Int32} {v_wrong : Int32} {v_after : Int32} {v_oneB : Int32} {v_twoB : Int32} {v_mF : (Nat → Int32)} {v_mkF : (Nat → Int32)} {v_mrF : (Nat → Int32)} {v_wdF : (Nat → Int32)} {v_oneF : (Nat → Int32)} {v_twoF : (Nat → Int32)} {v_mmF : (Nat → Int32)} {v_resF : (Nat → Int32)} {v_oldF : (Nat → Int32)} (hW : wdOk v_wdF) (hw : 0 ≤ v_wrong) (h : mOk v_mF) : mOk (fX12_rowsOfBytes x0 v_key v_cond v_masks v_wrong v_after v_oneB v_twoB v_mF v_mkF v_mrF v_wdF v_oneF v_twoF v_mmF v_resF v_oldF).2.2.2.2.2.1 := by
  obtain ⟨i, ei⟩ : ∃ z, z = v_wdF (1 : Int32).toNatClampNeg := ⟨_, rfl⟩
  obtain ⟨r9, e9⟩ : ∃ z, z = fX12_based 2 v_mrF v_wdF := ⟨_, rfl⟩
  obtain ⟨r15, e15⟩ : ∃ z, z = fX12_based 4 v_mrF v_wdF := ⟨_, rfl⟩
  have hi := wd1 hW (x := i) ei
  have ha : in24 r9 := based24 e9
  have hi1 : 1 ≤ (i + 1).toInt ∧ (i + 1).toInt ≤ 256 := p1_of (N := 255) (by decide) ⟨hi.1, Int.le_of_lt_add_one hi.2⟩
  have hh : ∀ z : Int32, z = i >>> (4 &&& 31) → 0 ≤ z.toInt ∧ z.toInt ≤ 15 := fun z e => by rw [e]; exact hi4 hi
  have ll : ∀ z : Int32, z = i &&& 15 → 0 ≤ z.toInt ∧ z.toInt ≤ 15 := fun z e => by rw [e]; exact lo4 i
  have hh1 : ∀ z : Int32, z = (i >>> (4 &&& 31)) + 1 → 1 ≤ z.toInt ∧ z.toInt ≤ 16 := fun z e => by rw [e]; exact p1_of (N := 15) (by decide) (hh _ rfl)
  have ll1 : ∀ z : Int32, z = (i &&& 15) + 1 → 1 ≤ z.toInt ∧ z.toInt ≤ 16 := fun z e => by rw [e]; exact p1_of (N := 15) (by decide) (ll _ rfl)
  simp only [fX12_rowsOfBytes, ← ei, ← e9, ← e15, apply_ite Prod.snd, apply_ite Prod.fst]
  repeat' first | with_reducible refine mOk_ite ?_ ?_ | with_reducible exact h | with_reducible exact m_rows h | with_reducible exact m_translate h | with_reducible exact m_edit hi1 ha hw h | with_reducible exact m_halves (hh1 _ rfl) (ll1 _ rfl) h | with_reducible exact m_decimals (hh _ rfl) (ll _ rfl) hw h
theorem m_act {v_mask : Int32} {v_key : Int32} {v_wait : Int32} {v_problem : Int32} {v_code : Int32} {v_length : Int32} {v_cond : Int32} {v_masks : Int32} {v_addr : Int32} {v_wrong : Int32} {v_after : Int32} {v_calls : Int32} {v_oneB : Int32} {v_twoB : Int32} {v_mF : (Nat → Int32)} {v_mkF : (Nat → Int32)} {v_mrF : (Nat → Int32)} {v_wdF : (Nat → Int32)} {v_oneF : (Nat → Int32)} {v_twoF : (Nat → Int32)} {v_mmF : (Nat → Int32)} {v_resF : (Nat → Int32)} {v_oldF : (Nat → Int32)} (hW : wdOk v_wdF) (hw : 0 ≤ v_wrong) (h : mOk v_mF) : mOk (fX12_act v_mask v_key v_wait v_problem v_code v_length v_cond v_masks v_addr v_wrong v_after v_calls v_oneB v_twoB v_mF v_mkF v_mrF v_wdF v_oneF v_twoF v_mmF v_resF v_oldF).2.2.2.2.2.2.2.2.2.2.2.2.2.2.1 := by
  simp only [fX12_act, apply_ite Prod.snd, apply_ite Prod.fst]
  repeat' first | with_reducible refine mOk_ite ?_ ?_ | with_reducible exact h | with_reducible exact m_indexedOnes h | with_reducible exact m_stored hW h | with_reducible exact m_rowsOfBytes hW hw h
theorem a_act {v_mask : Int32} {v_key : Int32} {v_wait : Int32} {v_problem : Int32} {v_code : Int32} {v_length : Int32} {v_cond : Int32} {v_masks : Int32} {v_addr : Int32} {v_wrong : Int32} {v_after : Int32} {v_calls : Int32} {v_oneB : Int32} {v_twoB : Int32} {v_mF : (Nat → Int32)} {v_mkF : (Nat → Int32)} {v_mrF : (Nat → Int32)} {v_wdF : (Nat → Int32)} {v_oneF : (Nat → Int32)} {v_twoF : (Nat → Int32)} {v_mmF : (Nat → Int32)} {v_resF : (Nat → Int32)} {v_oldF : (Nat → Int32)} (h : in24 v_addr) : in24 (fX12_act v_mask v_key v_wait v_problem v_code v_length v_cond v_masks v_addr v_wrong v_after v_calls v_oneB v_twoB v_mF v_mkF v_mrF v_wdF v_oneF v_twoF v_mmF v_resF v_oldF).2.2.2.2.2.2.2.2.1 := by
  simp only [fX12_act, apply_ite Prod.snd, apply_ite Prod.fst]
  repeat' first | with_reducible refine in24_ite ?_ ?_ | with_reducible exact h | with_reducible exact a_indexedOnes h | with_reducible exact a_stored h | with_reducible exact a_registers h
