noncomputable def ed290 (x1 : Int32) (x2 : Int32) (v_key : Int32) (v_mkF : (Nat → Int32)) (g_18 : ((Nat → Int32) × Int32)) (w_78 : (Int32 × (Nat → Int32) × Int32 × Int32 × Int32 × Int32 × Int32 × Int32)) : (Int32 × Int32 × Int32 × Int32 × Int32 × Int32) := (if 0 ≤ w_78.2.2.2.1 then ((w_78.1, (-1), 0, 0, w_78.2.2.2.1, w_78.2.2.2.2.1)) else (let u_139 := fX12_look (w_78.2.2.2.2.1 &&& 16777215) 1 0 v_key w_78.1 v_mkF; let x_147 := (w_78.2.2.2.2.1 &&& 16777215); let m_193 : Int32 := (if u_139 ≤ 0 then (if x_147 < x2 then ((w_78.2.1 (x_147 : Int32).toNatClampNeg)) else (if (x2 + x1) ≤ x_147 then ((w_78.2.1 (x_147 : Int32).toNatClampNeg)) else ((g_18.1 ((x_147 - x2) : Int32).toNatClampNeg)))) else (0)); let x_195 := w_78.2.2.2.2.1 + 1; let x_202 := (m_193 >>> (4 &&& 31)); let x_209 := (m_193 &&& 15); let m_231 : Int32 := (if u_139 = 0 then (if x_202 ≤ 9 then (u_139) else (let u_228 := fX12_meet 7 u_139; u_228)) else (u_139)); let m_243 : Int32 := (if x_209 ≤ 9 then (0) else (1)); let m_269 : Int32 := (if m_243 = 0 then (0) else (if x_209 = 11 then (0) else (if x_209 = 13 then (0) else (1)))); let m_282 : Int32 := (if m_243 = 0 then (x_209) else ((-1))); (m_231, m_282, m_269, m_243, x_202, x_195)))
noncomputable def ed448 (x0 : Int32) (x1 : Int32) (x2 : Int32) (v_key : Int32) (v_mkF : (Nat → Int32)) (g_18 : ((Nat → Int32) × Int32)) (x_52 : Int32) (w_78 : (Int32 × (Nat → Int32) × Int32 × Int32 × Int32 × Int32 × Int32 × Int32)) : (Int32 × (Nat → Int32) × Int32 × Int32 × Int32 × Int32 × Int32) := let x_100 := (w_78.2.1 ((x2 + w_78.2.2.2.2.2.2.2) : Int32).toNatClampNeg); (if x_100 = 32 then (let m_290 : (Int32 × Int32 × Int32 × Int32 × Int32 × Int32) := ed290 x1 x2 v_key v_mkF g_18 w_78; let m_316 : Int32 := (if x0 = 0 then (w_78.2.2.2.2.2.1) else (if m_290.2.2.2.2.1 = 0 then (w_78.2.2.2.2.2.1) else (if w_78.2.2.1 = 0 then (let x_314 := ((w_78.2.2.2.2.2.1 &&& (-16777216 : Int32)) ||| (x2 + w_78.2.2.2.2.2.2.2)); x_314) else (w_78.2.2.2.2.2.1)))); let m_345 : Int32 := (if m_290.2.2.2.2.1 = 0 then (if w_78.2.2.1 = 0 then (x_52) else ((240 ||| m_290.2.2.2.2.1))) else ((240 ||| m_290.2.2.2.2.1))); let f_345 := upd w_78.2.1 ((x2 + w_78.2.2.2.2.2.2.2) : Int32).toNatClampNeg (m_345); let m_361 : Int32 := (if w_78.2.2.2.2.2.2.1 = 0 then (if m_290.2.2.2.2.1 = 0 then (0) else (1)) else (1)); let m_390 : Int32 := (if w_78.2.2.1 = 0 then (if x_100 = 33 then (if m_290.2.2.1 = 0 then (1) else (0)) else (if m_290.2.2.2.2.1 = 0 then (0) else (if m_290.2.2.1 = 0 then (1) else (0)))) else (if m_290.2.2.1 = 0 then (1) else (0))); (m_290.1, f_345, m_390, m_290.2.1, m_290.2.2.2.2.2, m_316, m_361)) else (if x_100 = 33 then (let m_290 : (Int32 × Int32 × Int32 × Int32 × Int32 × Int32) := ed290 x1 x2 v_key v_mkF g_18 w_78; let m_316 : Int32 := (if x0 = 0 then (w_78.2.2.2.2.2.1) else (if m_290.2.2.2.2.1 = 0 then (w_78.2.2.2.2.2.1) else (if w_78.2.2.1 = 0 then (let x_314 := ((w_78.2.2.2.2.2.1 &&& (-16777216 : Int32)) ||| (x2 + w_78.2.2.2.2.2.2.2)); x_314) else (w_78.2.2.2.2.2.1)))); let m_345 : Int32 := (if m_290.2.2.2.2.1 = 0 then (if w_78.2.2.1 = 0 then (x_52) else ((240 ||| m_290.2.2.2.2.1))) else ((240 ||| m_290.2.2.2.2.1))); let f_345 := upd w_78.2.1 ((x2 + w_78.2.2.2.2.2.2.2) : Int32).toNatClampNeg (m_345); let m_361 : Int32 := (if w_78.2.2.2.2.2.2.1 = 0 then (if m_290.2.2.2.2.1 = 0 then (0) else (1)) else (1)); let m_390 : Int32 := (if w_78.2.2.1 = 0 then (if m_290.2.2.1 = 0 then (1) else (0)) else (if m_290.2.2.1 = 0 then (1) else (0))); (m_290.1, f_345, m_390, m_290.2.1, m_290.2.2.2.2.2, m_316, m_361)) else (if x_100 = 34 then (let f_412 := upd w_78.2.1 ((x2 + w_78.2.2.2.2.2.2.2) : Int32).toNatClampNeg (x_52); (w_78.1, f_412, 0, w_78.2.2.2.1, w_78.2.2.2.2.1, w_78.2.2.2.2.2.1, 0)) else (let m_447 : Int32 := (if w_78.2.2.1 = 0 then (if w_78.2.2.2.2.2.2.2 = 0 then (x_100) else (x_52)) else (x_100)); let f_447 := upd w_78.2.1 ((x2 + w_78.2.2.2.2.2.2.2) : Int32).toNatClampNeg (m_447); (w_78.1, f_447, w_78.2.2.1, w_78.2.2.2.1, w_78.2.2.2.2.1, w_78.2.2.2.2.2.1, w_78.2.2.2.2.2.2.1)))))
theorem ed78_step (x0 : Int32) (x1 : Int32) (x2 : Int32) (v_key : Int32) (v_mkF : (Nat → Int32)) (g_18 : ((Nat → Int32) × Int32)) (x_52 : Int32) (n9 : Nat) (w_78 : (Int32 × (Nat → Int32) × Int32 × Int32 × Int32 × Int32 × Int32 × Int32)) : LX12_edit_78 x0 x1 x2 v_key v_mkF g_18 x_52 (n9 + 1) w_78 = if x1 ≤ w_78.2.2.2.2.2.2.2 then (w_78.1, w_78.2.1, w_78.2.2.1, w_78.2.2.2.1, w_78.2.2.2.2.1, w_78.2.2.2.2.2.1, w_78.2.2.2.2.2.2.1, w_78.2.2.2.2.2.2.2) else if w_78.1 = 0 then LX12_edit_78 x0 x1 x2 v_key v_mkF g_18 x_52 n9 ((ed448 x0 x1 x2 v_key v_mkF g_18 x_52 w_78).1, (ed448 x0 x1 x2 v_key v_mkF g_18 x_52 w_78).2.1, (ed448 x0 x1 x2 v_key v_mkF g_18 x_52 w_78).2.2.1, (ed448 x0 x1 x2 v_key v_mkF g_18 x_52 w_78).2.2.2.1, (ed448 x0 x1 x2 v_key v_mkF g_18 x_52 w_78).2.2.2.2.1, (ed448 x0 x1 x2 v_key v_mkF g_18 x_52 w_78).2.2.2.2.2.1, (ed448 x0 x1 x2 v_key v_mkF g_18 x_52 w_78).2.2.2.2.2.2, w_78.2.2.2.2.2.2.2 + 1) else (w_78.1, w_78.2.1, w_78.2.2.1, w_78.2.2.2.1, w_78.2.2.2.2.1, w_78.2.2.2.2.2.1, w_78.2.2.2.2.2.2.1, w_78.2.2.2.2.2.2.2) := rfl

abbrev kpI (x : Int32) : Prop := -1 ≤ x.toInt ∧ x.toInt ≤ 15
theorem kp_ite {c : Prop} [Decidable c] {x y : Int32} (h1 : kpI x) (h2 : kpI y) : kpI (if c then x else y) := by
  by_cases h : c
  · rw [if_pos h]; exact h1
  · rw [if_neg h]; exact h2
theorem ed193 {u x a n : Int32} {f g : Nat → Int32} (hA : inM a n) (hn : 1 ≤ n.toInt ∧ n.toInt ≤ 256) (hf : mOk f) (hg : ∀ j : Nat, (j : Int) < n.toInt → byI (g j)) : byI (if u ≤ 0 then (if x < a then f x.toNatClampNeg else (if (a + n) ≤ x then f x.toNatClampNeg else g (x - a).toNatClampNeg)) else 0) := by
  by_cases c0 : u ≤ 0
  · rw [if_pos c0]
    by_cases c1 : x < a
    · rw [if_pos c1]; exact hf _
    rw [if_neg c1]
    by_cases c2 : a + n ≤ x
    · rw [if_pos c2]; exact hf _
    rw [if_neg c2]
    obtain ⟨h3, h4⟩ := hA
    have g1 := Int32.le_iff_toInt_le.mp (Int32.not_lt.mp c1)
    have g2 := lt_i c2
    rw [add_toInt (by omega) (by omega)] at g2
    have g3 : (x - a).toInt = x.toInt - a.toInt := sub_toInt (by omega) (by omega)
    have g4 := clamp_i (k := x - a) (by omega)
    exact hg _ (by omega)
  · rw [if_neg c0]; decide
theorem ed_dig {x1 x2 v_key : Int32} {v_mkF : Nat → Int32} {g_18 : (Nat → Int32) × Int32} {w : (Int32 × (Nat → Int32) × Int32 × Int32 × Int32 × Int32 × Int32 × Int32)} (hA : inM x2 x1) (hn : 1 ≤ x1.toInt ∧ x1.toInt ≤ 256) (hf : mOk w.2.1) (hg : ∀ j : Nat, (j : Int) < x1.toInt → byI (g_18.1 j)) (hk : kpI w.2.2.2.1) : (0 ≤ (ed290 x1 x2 v_key v_mkF g_18 w).2.2.2.2.1.toInt ∧ (ed290 x1 x2 v_key v_mkF g_18 w).2.2.2.2.1.toInt ≤ 15) ∧ kpI (ed290 x1 x2 v_key v_mkF g_18 w).2.1 := by
  have hb := ed193 (u := fX12_look (w.2.2.2.2.1 &&& 16777215) 1 0 v_key w.1 v_mkF) (x := w.2.2.2.2.1 &&& 16777215) hA hn hf hg
  simp only [ed290, apply_ite Prod.snd, apply_ite Prod.fst]
  by_cases c : 0 ≤ w.2.2.2.1
  · rw [if_pos c, if_pos c]
    have := le0 c
    exact ⟨⟨this, hk.2⟩, by decide⟩
  · rw [if_neg c, if_neg c]
    have hl := lo4 (if fX12_look (w.2.2.2.2.1 &&& 16777215) 1 0 v_key w.1 v_mkF ≤ 0 then (if (w.2.2.2.2.1 &&& 16777215) < x2 then w.2.1 (w.2.2.2.2.1 &&& 16777215).toNatClampNeg else (if (x2 + x1) ≤ (w.2.2.2.2.1 &&& 16777215) then w.2.1 (w.2.2.2.2.1 &&& 16777215).toNatClampNeg else g_18.1 ((w.2.2.2.2.1 &&& 16777215) - x2).toNatClampNeg)) else 0)
    exact ⟨hi4 hb, kp_ite ⟨Int.le_trans (by decide) hl.1, hl.2⟩ (by decide)⟩
theorem ed_all {x0 x1 x2 v_key x_52 : Int32} {v_mkF : Nat → Int32} {g_18 : (Nat → Int32) × Int32} {w : (Int32 × (Nat → Int32) × Int32 × Int32 × Int32 × Int32 × Int32 × Int32)} (hA : inM x2 x1) (hn : 1 ≤ x1.toInt ∧ x1.toInt ≤ 256) (hfl : byI x_52) (hf : mOk w.2.1) (hg : ∀ j : Nat, (j : Int) < x1.toInt → byI (g_18.1 j)) (hk : kpI w.2.2.2.1) : mOk (ed448 x0 x1 x2 v_key v_mkF g_18 x_52 w).2.1 ∧ kpI (ed448 x0 x1 x2 v_key v_mkF g_18 x_52 w).2.2.2.1 := by
  obtain ⟨hd, hk2⟩ := ed_dig (v_key := v_key) (v_mkF := v_mkF) hA hn hf hg hk
  have h240 : byI (240 ||| (ed290 x1 x2 v_key v_mkF g_18 w).2.2.2.2.1) := by_or (by decide) (by_15 hd)
  simp only [ed448, apply_ite Prod.snd, apply_ite Prod.fst]
  refine ⟨mOk_ite (mOk_upd hf (by_ite (by_ite hfl h240) h240)) (mOk_ite (mOk_upd hf (by_ite (by_ite hfl h240) h240)) (mOk_ite (mOk_upd hf hfl) (mOk_upd hf (by_ite (by_ite (hf _) hfl) (hf _))))), ?_⟩
  exact kp_ite hk2 (kp_ite hk2 (kp_ite hk hk))
theorem m_ed78 {x0 x1 x2 v_key x_52 : Int32} {v_mkF : Nat → Int32} {g_18 : (Nat → Int32) × Int32} (hA : inM x2 x1) (hn : 1 ≤ x1.toInt ∧ x1.toInt ≤ 256) (hfl : byI x_52) (hg : ∀ j : Nat, (j : Int) < x1.toInt → byI (g_18.1 j)) : ∀ (n9 : Nat) (w : (Int32 × (Nat → Int32) × Int32 × Int32 × Int32 × Int32 × Int32 × Int32)), mOk w.2.1 → kpI w.2.2.2.1 → mOk (LX12_edit_78 x0 x1 x2 v_key v_mkF g_18 x_52 n9 w).2.1 := by
  intro n9
  induction n9 with
  | zero => intro w h _; exact h
  | succ n9 ih =>
    intro w hf hk
    rw [ed78_step]
    obtain ⟨a1, a2⟩ := ed_all (x0 := x0) (v_key := v_key) (v_mkF := v_mkF) hA hn hfl hf hg hk
    generalize ed448 x0 x1 x2 v_key v_mkF g_18 x_52 w = t at a1 a2 ⊢
    by_cases c : x1 ≤ w.2.2.2.2.2.2.2
    · rw [if_pos c]; exact hf
    rw [if_neg c]
    by_cases c2 : w.1 = 0
    · rw [if_pos c2]; exact ih _ a1 a2
    · rw [if_neg c2]; exact hf
theorem m_edit {x0 : Int32} {x1 : Int32} {x2 : Int32} {x3 : Int32} {v_key : Int32} {v_cond : Int32} {v_wrong : Int32} {v_mF : (Nat → Int32)} {v_mkF : (Nat → Int32)} {v_mrF : (Nat → Int32)} {v_oldF : (Nat → Int32)} (hn : 1 ≤ x1.toInt ∧ x1.toInt ≤ 256) (ha : in24 x2) (hw : 0 ≤ v_wrong) (h : mOk v_mF) : mOk (fX12_edit x0 x1 x2 x3 v_key v_cond v_wrong v_mF v_mkF v_mrF v_oldF).2.2.1 := by
  obtain ⟨g, e⟩ : ∃ g, g = LX12_edit_18 x1 x2 v_mF (msU x1 0 + 1) (v_oldF, 0) := ⟨_, rfl⟩
  by_cases c : fX12_look x2 x1 1 v_key v_wrong v_mkF ≤ 0
  · have hA := (lk_inM ha hn hw rfl c).2
    have hg := ed18 h e
    have h78 : ∀ n9 u z, mOk (LX12_edit_78 x0 x1 x2 v_key v_mkF g (v_mF x2.toNatClampNeg) n9 (u, v_mF, 0, (-1), x3, z, 0, 0)).2.1 := fun n9 u z => m_ed78 hA hn (h _) hg n9 _ h (show kpI (-1) by decide)
    simp only [fX12_edit, ← e, apply_ite Prod.snd, apply_ite Prod.fst]
    rw [if_pos c]
    exact mOk_ite (h78 _ _ _) (m_ed464 hg _ _ (show (0 : Int32) ≤ 0 by decide) (h78 _ _ _))
  · simp only [fX12_edit, ← e, apply_ite Prod.snd, apply_ite Prod.fst]
    rw [if_neg c]
    exact h
