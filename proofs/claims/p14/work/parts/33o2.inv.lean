/-! memory stays bytes: the operations -/
theorem mOk_ite {c : Prop} [Decidable c] {x y : Nat → Int32} (h1 : mOk x) (h2 : mOk y) : mOk (if c then x else y) := by
  by_cases h : c
  · rw [if_pos h]; exact h1
  · rw [if_neg h]; exact h2
theorem lN_dig {d : Nat} (h : d < 10) : dgI (lN d).toInt32 := by
  have h1 : ∀ d : Fin 10, dgI (lN d.val).toInt32 := by decide
  exact h1 ⟨d, h⟩
theorem td32 : ∀ (n9 : Nat) (w : (Nat → Int32) × Int64 × Int32) (k : Nat), k < 2 ^ 63 → w.2.1 = lN k → dOk w.1 → dOk (LX12_toDecimal_32 n9 w).1 := by
  intro n9
  induction n9 with
  | zero => intro w k _ _ h; exact h
  | succ n9 ih =>
    intro w k hk ek h
    simp only [LX12_toDecimal_32]
    split
    · exact h
    · have e1 : lN k - lN k / 10 * 10 = lN (k % 10) := pk_lRem (b := 10) hk (by decide) (by decide)
      have e2 : lN k / 10 = lN (k / 10) := pk_lDiv (b := 10) hk (by decide) (by decide)
      refine ih _ (k / 10) (by omega) ?_ ?_
      · show w.2.1 / 10 = lN (k / 10)
        rw [ek, e2]
      · show dOk (upd w.1 w.2.2.toNatClampNeg (w.2.1 - w.2.1 / 10 * 10).toInt32)
        rw [ek, e1]
        exact dOk_upd h (lN_dig (Nat.mod_lt _ (by decide)))
theorem td32_all (v : Int64) (hv : ¬ v < 0) (f : Nat → Int32) : dOk (LX12_toDecimal_32 (msU 80 0 + 1) (f, v, 0)).1 := by
  obtain ⟨k, hk, ek⟩ := pk_lOf hv
  have k80 : (80 : Int32).toInt = 80 := by decide
  have hl : ∀ (n9 i : Nat) (f : Nat → Int32) (k : Nat), k < 2 ^ 63 → i ≤ 80 → 80 - i < n9 → (∀ j, j < i → dgI (f j)) → dOk (LX12_toDecimal_32 n9 (f, lN k, nI i)).1 := by
    intro n9
    induction n9 with
    | zero => intro i f k _ _ h; exact absurd h (Nat.not_lt_zero _)
    | succ n9 ih =>
      intro i f k hk hi hm hI
      simp only [LX12_toDecimal_32]
      by_cases c : 80 ≤ nI i
      · rw [if_pos c]
        have := (i80 hi).1 c
        subst this
        exact hI
      have hlt := (i80 hi).2 c
      have e1 : lN k - lN k / 10 * 10 = lN (k % 10) := pk_lRem (b := 10) hk (by decide) (by decide)
      have e2 : lN k / 10 = lN (k / 10) := pk_lDiv (b := 10) hk (by decide) (by decide)
      rw [if_neg c, nI_1, nI_clamp (by omega), e1, e2]
      refine ih (i + 1) _ (k / 10) (by omega) (by omega) (by omega) (fun j hj => ?_)
      by_cases ej : j = i
      · rw [ej, pk_us]; exact lN_dig (Nat.mod_lt _ (by decide))
      · rw [pk_un ej]; exact hI j (by omega)
  rw [ek]
  exact hl (msU 80 0 + 1) 0 f k hk (by omega) fuel80 (fun j hj => absurd hj (Nat.not_lt_zero _))
theorem abs_nn (x : Int32) : ¬ (if 0 < x.toInt64 then x.toInt64 else -x.toInt64) < 0 := by
  intro h
  have h0 : (0 : Int64).toInt = 0 := by decide
  have h1 := Int64.lt_iff_toInt_lt.mp h
  have h2 : x.toInt < 2 ^ 31 := Int32.toInt_lt x
  have h3 : -2 ^ 31 ≤ x.toInt := Int32.le_toInt x
  have h4 : x.toInt64.toInt = x.toInt := Int32.toInt_toInt64 x
  split at h1
  · rename_i c
    have c1 := Int64.lt_iff_toInt_lt.mp c
    omega
  · rename_i c
    have c1 : ¬ (0 : Int64).toInt < x.toInt64.toInt := fun q => c (Int64.lt_iff_toInt_lt.mpr q)
    have h5 : (-x.toInt64).toInt = -x.toInt := by
      rw [Int64.toInt_neg, h4, Int.bmod_eq_of_le (by omega) (by omega)]
    omega
theorem m_toDecimal {x0 : Int32} {x1 : Int32} {v_key : Int32} {v_wrong : Int32} {v_mF : (Nat → Int32)} {v_mkF : (Nat → Int32)} {v_mmF : (Nat → Int32)} (h : mOk v_mF) : mOk (fX12_toDecimal x0 x1 v_key v_wrong v_mF v_mkF v_mmF).2.1 := by
  obtain ⟨v, ev⟩ : ∃ v, v = (if 0 < (x1 : Int32).toInt64 then (x1 : Int32).toInt64 else -(x1 : Int32).toInt64) := ⟨_, rfl⟩
  obtain ⟨g, e⟩ : ∃ g, g = LX12_toDecimal_32 (msU 80 0 + 1) (v_mmF, v, 0) := ⟨_, rfl⟩
  simp only [fX12_toDecimal, ← ev, ← e]
  split
  · refine m_putDecimal ⟨by decide, by decide⟩ ?_ h
    rw [e]
    exact td32_all v (by rw [ev]; exact abs_nn x1) v_mmF
  · exact h
theorem m_many_l {x0 x2 x3 n u : Int32} : ∀ (n9 : Nat) (w : (Nat → Int32) × (Nat → Int32) × Int32), mOk w.1 → mOk (LX12_many_30 x0 x2 x3 n u n9 w).1 := by
  intro n9
  induction n9 with
  | zero => intro w h; exact h
  | succ n9 ih =>
    intro w h
    simp only [LX12_many_30]
    split
    · exact h
    · split
      · refine ih _ ?_
        split
        · exact h
        · exact m_store h
      · exact h
theorem m_many {x0 : Int32} {x1 : Int32} {x2 : Int32} {x3 : Int32} {v_key : Int32} {v_wrong : Int32} {v_mF : (Nat → Int32)} {v_mkF : (Nat → Int32)} {v_mrF : (Nat → Int32)} (h : mOk v_mF) : mOk (fX12_many x0 x1 x2 x3 v_key v_wrong v_mF v_mkF v_mrF).2.1 := by
  simp only [fX12_many]
  exact m_many_l _ _ h
theorem m_withByte {x0 : Int32} {x1 : Int32} {x2 : Int32} {v_key : Int32} {v_cond : Int32} {v_wrong : Int32} {v_mF : (Nat → Int32)} {v_mkF : (Nat → Int32)} (hi : byI x1) (h : mOk v_mF) : mOk (fX12_withByte x0 x1 x2 v_key v_cond v_wrong v_mF v_mkF).2.2 := by
  simp only [fX12_withByte, apply_ite Prod.snd, apply_ite Prod.fst]
  exact mOk_ite (mOk_ite h (mOk_ite (mOk_upd h hi) (mOk_ite (mOk_upd h (by decide)) (mOk_ite h (mOk_upd h (by_ite (by_and (h _) _) (by_ite (by_or (h _) hi) (by_xor (h _) hi)))))))) h
theorem by_mixed {op x y : Int32} (hx : byI x) (hy : byI y) : byI (fX12_mixed op x y) := by
  simp only [fX12_mixed]
  exact by_ite (by_or (by_and hx _) (by_and hy _)) (by_ite hy (by_ite (by_or (by_and hx _) (by_and hy _)) (by_ite (by_and hx _) (by_ite (by_or hx hy) (by_xor hx hy)))))
theorem m_rows_l {op n a b : Int32} : ∀ (n9 : Nat) (w : (Nat → Int32) × Int32 × Int32), mOk w.1 → mOk (LX12_rows_103 op n a b n9 w).1 := by
  intro n9
  induction n9 with
  | zero => intro w h; exact h
  | succ n9 ih =>
    intro w h
    simp only [LX12_rows_103]
    split
    · exact h
    · exact ih _ (mOk_upd h (by_mixed (h _) (h _)))
theorem m_rows {x0 : Int32} {x1 : Int32} {x2 : Int32} {x3 : Int32} {v_key : Int32} {v_cond : Int32} {v_wrong : Int32} {v_mF : (Nat → Int32)} {v_mkF : (Nat → Int32)} (h : mOk v_mF) : mOk (fX12_rows x0 x1 x2 x3 v_key v_cond v_wrong v_mF v_mkF).2.2 := by
  have hl : ∀ n9, mOk (LX12_rows_103 x0 x1 x2 x3 n9 (v_mF, 0, 0)).1 := fun n9 => m_rows_l _ _ h
  simp only [fX12_rows, apply_ite Prod.snd, apply_ite Prod.fst]
  exact mOk_ite (mOk_ite h (mOk_ite (hl _) (mOk_ite (hl _) (mOk_ite (hl _) (hl _))))) h
theorem m_tr_l {x0 n a b : Int32} : ∀ (n9 : Nat) (w : Int32 × (Nat → Int32)), mOk w.2 → mOk (LX12_translate_81 x0 n a b n9 w).1.2 := by
  intro n9
  induction n9 with
  | zero => intro w h; exact h
  | succ n9 ih =>
    intro w h
    simp only [LX12_translate_81]
    split
    · exact h
    · split
      · exact ih _ (mOk_upd h (h _))
      · split
        · exact ih _ h
        · exact h
theorem m_translate {x0 : Int32} {x1 : Int32} {x2 : Int32} {x3 : Int32} {v_key : Int32} {v_cond : Int32} {v_wrong : Int32} {v_mF : (Nat → Int32)} {v_mkF : (Nat → Int32)} {v_mrF : (Nat → Int32)} (h : mOk v_mF) : mOk (fX12_translate x0 x1 x2 x3 v_key v_cond v_wrong v_mF v_mkF v_mrF).2.2.1 := by
  have hl : ∀ n9, mOk (LX12_translate_81 x0 x1 x2 x3 n9 (0, v_mF)).1.2 := fun n9 => m_tr_l _ _ h
  simp only [fX12_translate, apply_ite Prod.snd, apply_ite Prod.fst]
  exact mOk_ite (mOk_ite (hl _) (hl _)) h
theorem hf_15 {k n : Int32} {old : Nat → Int32} (ho : ∀ j : Nat, (j : Int) < n.toInt → byI (old j)) (hk : 0 ≤ k.toInt) (hn : n.toInt ≤ 16) : 0 ≤ (fX12_half k n old).toInt ∧ (fX12_half k n old).toInt ≤ 15 := by
  have hb : byI (if n ≤ k / 2 then 0 else old ((n - 1) - (k / 2)).toNatClampNeg) := by
    split
    · decide
    · rename_i c
      have h2 := lt_i c
      have e := half_i hk
      rw [e] at h2
      have e1 : (n - 1).toInt = n.toInt - 1 := sub1_i (by omega)
      have e2 : ((n - 1) - (k / 2)).toInt = n.toInt - 1 - k.toInt / 2 := by rw [sub_toInt (by omega) (by omega), e1, e]
      have e3 := clamp_i (k := (n - 1) - (k / 2)) (by omega)
      exact ho _ (by omega)
  simp only [fX12_half]
  split
  · exact lo4 _
  · exact hi4 hb
theorem m_hv_l {op n m a last : Int32} {g : (Nat → Int32) × Int32} (hn : n.toInt ≤ 16) (hm : m.toInt ≤ 16) (ho : ∀ j : Nat, (j : Int) < m.toInt → byI (g.1 j)) : ∀ (n9 : Nat) (w : (Nat → Int32) × Int32), 0 ≤ w.2 → mOk w.1 → mOk (LX12_halves_72 op n m a g last n9 w).1 := by
  intro n9
  induction n9 with
  | zero => intro w _ h; exact h
  | succ n9 ih =>
    intro w h0 h
    simp only [LX12_halves_72]
    by_cases c : n ≤ w.2
    · rw [if_pos c]; exact h
    rw [if_neg c]
    refine ih _ (nn_up h0 c) (mOk_upd h ?_)
    split
    · split
      · exact by_hl (hf_15 ho (by decide) hm) (lo4 _)
      · rename_i c2
        exact by_hl (hf_15 ho (hv_2 hn h0 c) hm) (hf_15 ho (hv_2m hn h0 c c2) hm)
    · split
      · exact by_hl (hf_15 ho (by decide) hm) (hf_15 ho (by decide) hm)
      · rename_i c2
        split
        · exact by_hl (hf_15 ho (hv_4 hn h0 c) hm) (hf_15 ho (hv_4m hn h0 c c2) hm)
        · exact by_or (by decide) (by_15 (hf_15 ho (hv_p hn h0 c) hm))
theorem hv27 {m b : Int32} {mF f : Nat → Int32} {g : (Nat → Int32) × Int32} (hM : mOk mF) (e : g = LX12_halves_27 m b mF (msU m 0 + 1) (f, 0)) : ∀ j : Nat, (j : Int) < m.toInt → byI (g.1 j) := fun j hj => by
  rw [e]
  exact fill_0 (L := LX12_halves_27 m b mF) (B := m) (e := fun w => mF (b + w.2).toNatClampNeg) (fun _ _ => rfl) (fun _ x => byI x) (fun _ _ _ => hM _) f j hj
theorem m_halves {x0 : Int32} {x1 : Int32} {x2 : Int32} {x3 : Int32} {x4 : Int32} {v_key : Int32} {v_wrong : Int32} {v_mF : (Nat → Int32)} {v_mkF : (Nat → Int32)} {v_oldF : (Nat → Int32)} (hn : 1 ≤ x1.toInt ∧ x1.toInt ≤ 16) (hm : 1 ≤ x2.toInt ∧ x2.toInt ≤ 16) (h : mOk v_mF) : mOk (fX12_halves x0 x1 x2 x3 x4 v_key v_wrong v_mF v_mkF v_oldF).2.1 := by
  obtain ⟨g, e⟩ : ∃ g, g = LX12_halves_27 x2 x4 v_mF (msU x2 0 + 1) (v_oldF, 0) := ⟨_, rfl⟩
  simp only [fX12_halves, ← e]
  split
  · exact m_hv_l hn.2 hm.2 (hv27 h e) _ _ (show (0 : Int32) ≤ 0 by decide) h
  · exact h
/-! a pattern -/
theorem ed18 {n a : Int32} {mF f : Nat → Int32} {g : (Nat → Int32) × Int32} (hM : mOk mF) (e : g = LX12_edit_18 n a mF (msU n 0 + 1) (f, 0)) : ∀ j : Nat, (j : Int) < n.toInt → byI (g.1 j) := fun j hj => by
  rw [e]
  exact fill_0 (L := LX12_edit_18 n a mF) (B := n) (e := fun w => mF (a + w.2).toNatClampNeg) (fun _ _ => rfl) (fun _ x => byI x) (fun _ _ _ => hM _) f j hj
theorem m_ed464 {n a : Int32} {g : (Nat → Int32) × Int32} (ho : ∀ j : Nat, (j : Int) < n.toInt → byI (g.1 j)) : ∀ (n9 : Nat) (w : (Nat → Int32) × Int32), 0 ≤ w.2 → mOk w.1 → mOk (LX12_edit_464 n a g n9 w).1 := by
  intro n9
  induction n9 with
  | zero => intro w _ h; exact h
  | succ n9 ih =>
    intro w h0 h
    simp only [LX12_edit_464]
    by_cases c : n ≤ w.2
    · rw [if_pos c]; exact h
    rw [if_neg c]
    have h1 := clamp_i (le0 h0)
    have h2 := lt_i c
    exact ih _ (nn_up h0 c) (mOk_upd h (ho _ (by omega)))
