/-! memory stays bytes -/
theorem by_15 {x : Int32} (h : 0 ≤ x.toInt ∧ x.toInt ≤ 15) : byI x := ⟨h.1, by omega⟩
theorem by_d {x : Int32} (h : dgI x) : 0 ≤ x.toInt ∧ x.toInt ≤ 15 := ⟨h.1, by omega⟩
theorem by_shl {x : Int32} (h : 0 ≤ x.toInt ∧ x.toInt ≤ 15) : byI (x <<< (4 &&& 31)) := by
  obtain ⟨j, hj, e⟩ := nI_of (x := x) (nlt0 h.1)
  rw [e, nI_toInt hj] at h
  rw [e, pk_shlN (4 &&& 31) 4 (by decide) (by omega)]
  show 0 ≤ (nI (j * 2 ^ 4)).toInt ∧ (nI (j * 2 ^ 4)).toInt < 256
  rw [nI_toInt (by omega)]
  omega
theorem by_hl {x y : Int32} (h : 0 ≤ x.toInt ∧ x.toInt ≤ 15) (h2 : 0 ≤ y.toInt ∧ y.toInt ≤ 15) : byI ((x <<< (4 &&& 31)) ||| y) := by_or (by_shl h) (by_15 h2)
theorem by_ite {c : Prop} [Decidable c] {x y : Int32} (h : byI x) (h2 : byI y) : byI (if c then x else y) := by split <;> assumption
theorem by_long (v : Int64) : byI (v &&& 255).toInt32 := by
  have h1 : (v &&& 255).toBitVec.toNat < 256 := by
    rw [Int64.toBitVec_and, BitVec.toNat_and]
    have h2 : (255 : Int64).toBitVec.toNat = 255 := by decide
    rw [h2]
    exact Nat.lt_of_le_of_lt Nat.and_le_right (by decide)
  have h3 : (v &&& 255).toInt = (v &&& 255).toBitVec.toInt := rfl
  rw [BitVec.toInt_eq_toNat_cond, if_pos (by omega)] at h3
  have h4 : (v &&& 255).toInt32.toInt = (v &&& 255).toInt.bmod (2 ^ 32) := Int64.toInt_toInt32 _
  show 0 ≤ (v &&& 255).toInt32.toInt ∧ (v &&& 255).toInt32.toInt < 256
  rw [h4, h3, Int.bmod_eq_of_le (by omega) (by omega)]
  omega
theorem m_store_l {a n : Int32} {v : Int64} : ∀ (n9 : Nat) (w : (Nat → Int32) × Int32), mOk w.1 → mOk (LX12_store_3 a v n n9 w).1
  | 0, _, h => h
  | n9 + 1, w, h => by
    simp only [LX12_store_3]
    split
    · exact h
    · exact m_store_l n9 (upd w.1 (a + w.2).toNatClampNeg _, w.2 + 1) (mOk_upd h (by_long _))
theorem m_store {x0 : Int32} {x1 : Int64} {x2 : Int32} {v_mF : (Nat → Int32)} (h : mOk v_mF) : mOk (fX12_store x0 x1 x2 v_mF) := by
  simp only [fX12_store]
  exact m_store_l _ _ h
theorem m_interrupt {x0 : Int32} {x1 : Int32} {x2 : Int32} {x3 : Int32} {v_mask : Int32} {v_key : Int32} {v_wait : Int32} {v_problem : Int32} {v_code : Int32} {v_length : Int32} {v_cond : Int32} {v_masks : Int32} {v_addr : Int32} {v_mF : (Nat → Int32)} (h : mOk v_mF) : mOk (fX12_interrupt x0 x1 x2 x3 v_mask v_key v_wait v_problem v_code v_length v_cond v_masks v_addr v_mF).2.2.2.2.2.2.2.2.2 := by
  simp only [fX12_interrupt]
  exact m_store h
theorem a_become {x0 : Int64} {v_mask : Int32} {v_key : Int32} {v_wait : Int32} {v_problem : Int32} {v_code : Int32} {v_length : Int32} {v_cond : Int32} {v_masks : Int32} {v_addr : Int32} : in24 (fX12_become x0 v_mask v_key v_wait v_problem v_code v_length v_cond v_masks v_addr).2.2.2.2.2.2.2.2 := by
  simp only [fX12_become]
  exact in24_b rfl
theorem a_interrupt {x0 : Int32} {x1 : Int32} {x2 : Int32} {x3 : Int32} {v_mask : Int32} {v_key : Int32} {v_wait : Int32} {v_problem : Int32} {v_code : Int32} {v_length : Int32} {v_cond : Int32} {v_masks : Int32} {v_addr : Int32} {v_mF : (Nat → Int32)} : in24 (fX12_interrupt x0 x1 x2 x3 v_mask v_key v_wait v_problem v_code v_length v_cond v_masks v_addr v_mF).2.2.2.2.2.2.2.2.1 := by
  simp only [fX12_interrupt]
  exact a_become
theorem a_branchTo {x0 : Int32} {v_addr : Int32} : in24 (fX12_branchTo x0 v_addr) := by
  simp only [fX12_branchTo]
  exact in24_b rfl
theorem m_toMemory {x0 : Int32} {x1 : Int32} {x2 : Int32} {v_key : Int32} {v_wrong : Int32} {v_mF : (Nat → Int32)} {v_mkF : (Nat → Int32)} (h : mOk v_mF) : mOk (fX12_toMemory x0 x1 x2 v_key v_wrong v_mF v_mkF).2 := by
  simp only [fX12_toMemory]
  split
  · exact m_store h
  · exact h
theorem m_write {x0 : Int32} {x1 : Int64} {x2 : Int32} {v_thrown : Int32} {v_mF : (Nat → Int32)} (h : mOk v_mF) : mOk (fX12_write x0 x1 x2 v_thrown v_mF).2 := by
  simp only [fX12_write]
  (repeat' split) <;> first | exact h | exact m_store h
theorem m_tick {x0 : Int32} {v_thrown : Int32} {v_mwanted : Int32} {v_mF : (Nat → Int32)} (h : mOk v_mF) : mOk (fX12_tick x0 v_thrown v_mwanted v_mF).2.2.2 := by
  simp only [fX12_tick]
  (repeat' split) <;> first | exact h | exact m_store h
theorem vin_cl {x : Int32} {N : Nat} (h : vp_in x N) : x.toNatClampNeg < N := Nat.lt_of_not_le (fun q => h (Or.inr q))
theorem m_pd_l {a n s : Int32} {mm : Nat → Int32} (hn : 1 ≤ n.toInt ∧ n.toInt ≤ 16) (hd : dOk mm) : ∀ (n9 : Nat) (w : (Nat → Int32) × Int32), 0 ≤ w.2 → mOk w.1 → mOk (LX12_putDecimal_100 a n mm s n9 w).1
  | 0, _, _, h => h
  | n9 + 1, w, h0, h => by
    simp only [LX12_putDecimal_100]
    by_cases c : n ≤ w.2
    · rw [if_pos c]; exact h
    rw [if_neg c]
    refine m_pd_l hn hd n9 _ (nn_up h0 c) (mOk_upd h ?_)
    have h1 := by_d (hd _ (vin_cl (pd_a hn h0 c)))
    refine by_hl h1 ?_
    split
    · split <;> decide
    · rename_i c2
      exact by_d (hd _ (vin_cl (pd_b hn h0 c c2)))
theorem m_putDecimal {x0 : Int32} {x1 : Int32} {x2 : Int32} {x3 : Int32} {v_mF : (Nat → Int32)} {v_mmF : (Nat → Int32)} (hn : 1 ≤ x1.toInt ∧ x1.toInt ≤ 16) (hd : dOk v_mmF) (h : mOk v_mF) : mOk (fX12_putDecimal x0 x1 x2 x3 v_mF v_mmF).2 := by
  simp only [fX12_putDecimal]
  exact m_pd_l hn hd _ _ (show (0 : Int32) ≤ 0 by decide) h
theorem m_afterDecimal {x0 : Int32} {x1 : Int32} {x2 : Int32} {v_cond : Int32} {v_masks : Int32} {v_after : Int32} {v_mF : (Nat → Int32)} {v_mmF : (Nat → Int32)} (hn : 1 ≤ x1.toInt ∧ x1.toInt ≤ 16) (hd : dOk v_mmF) (h : mOk v_mF) : mOk (fX12_afterDecimal x0 x1 x2 v_cond v_masks v_after v_mF v_mmF).2.2 := by
  simp only [fX12_afterDecimal]
  split
  · exact m_putDecimal hn hd h
  · split <;> exact m_putDecimal hn hd h
theorem sum_md {c1 c2 : Prop} [Decidable c1] [Decidable c2] {f g k : Nat → Int32} {x y : Int32} (hf : dOk f) (hg : dOk g) (hk : dOk k) : dOk (if c1 then (f, x) else if c2 then (g, y) else (k, x)).1 := by
  split
  · exact hf
  · split
    · exact hg
    · exact hk
theorem m_sum {x0 : Int32} {x1 : Int32} {x2 : Int32} {x3 : Int32} {v_cond : Int32} {v_masks : Int32} {v_after : Int32} {v_oneB : Int32} {v_twoB : Int32} {v_mF : (Nat → Int32)} {v_oneF : (Nat → Int32)} {v_twoF : (Nat → Int32)} {v_mmF : (Nat → Int32)} (hn : 1 ≤ x3.toInt ∧ x3.toInt ≤ 16) (h1 : dOk v_oneF) (h2 : dOk v_twoF) (h : mOk v_mF) : mOk (fX12_sumOfDecimals x0 x1 x2 x3 v_cond v_masks v_after v_oneB v_twoB v_mF v_oneF v_twoF v_mmF).2.2.1 := by
  have hd : ∀ (c1 c2 : Prop) [Decidable c1] [Decidable c2] (x y : Int32), dOk (if c1 then (fX12_addDigits 1 v_mmF v_oneF v_twoF, x) else if c2 then (fX12_addDigits (-1) v_mmF v_twoF v_oneF, y) else (fX12_addDigits (-1) v_mmF v_oneF v_twoF, x)).1 := fun c1 c2 _ _ x y => sum_md (ad_dig h1 h2 (Or.inl rfl)) (ad_dig h2 h1 (Or.inr rfl)) (ad_dig h1 h2 (Or.inr rfl))
  simp only [fX12_sumOfDecimals]
  split
  · exact m_afterDecimal hn (hd _ _ _ _) h
  · exact h
/-- one place of a product -/
theorem pr_one {a b c m x : Int32} (ha : dgI a) (hb : dgI b) (hc : dgI c) (hm : dgI m) (ex : x = (a + b * c) + m) : dgI (x - x / 10 * 10) ∧ dgI (x / 10) := by
  have hbc : b.toInt * c.toInt ≤ 9 * 9 := Int.mul_le_mul (by omega) (by omega) hc.1 (by decide)
  have hbc0 : 0 ≤ b.toInt * c.toInt := Int.mul_nonneg hb.1 hc.1
  have e1 : (b * c).toInt = b.toInt * c.toInt := mul_toInt (by omega) (by omega)
  have e2 : (a + b * c).toInt = a.toInt + b.toInt * c.toInt := by rw [add_toInt (by omega) (by omega), e1]
  have e3 : x.toInt = a.toInt + b.toInt * c.toInt + m.toInt := by rw [ex, add_toInt (by omega) (by omega), e2]
  obtain ⟨j, hj, e⟩ := nI_of (x := x) (nlt0 (by omega))
  rw [e, nI_toInt hj] at e3
  have hj2 : j < 100 := by omega
  have e4 : nI j - nI j / 10 * 10 = nI (j % 10) := pk_rem (d := 10) hj (by decide) (by decide)
  have e5 : nI j / 10 = nI (j / 10) := pk_div (d := 10) hj (by decide) (by decide)
  rw [e, e4, e5]
  show (0 ≤ (nI (j % 10)).toInt ∧ (nI (j % 10)).toInt < 10) ∧ (0 ≤ (nI (j / 10)).toInt ∧ (nI (j / 10)).toInt < 10)
  rw [nI_toInt (by omega), nI_toInt (by omega)]
  omega
theorem pr40 {one two : Nat → Int32} {w27 : (Nat → Int32) × Int32} (h1 : dOk one) (h2 : dOk two) (h0 : 0 ≤ w27.2) (hk : ¬ 32 ≤ w27.2) : ∀ (n9 : Nat) (w : (Nat → Int32) × Int32 × Int32), 0 ≤ w.2.2 → dgI w.2.1 → dOk w.1 → dOk (LX12_productOfDecimals_40 one two w27 n9 w).1
  | 0, _, _, _, h => h
  | n9 + 1, w, hj0, hm, h => by
    simp only [LX12_productOfDecimals_40]
    by_cases c : 40 ≤ w.2.2
    · rw [if_pos c]; exact h
    rw [if_neg c]
    have g := pr_one (h _ (vin_cl (pr_in h0 hk hj0 c))) (h1 _ (vin_cl (vin_lt (b := 32) (B := 32) (N := 80) (by decide) (by decide) h0 hk))) (h2 _ (vin_cl (vin_lt (b := 40) (B := 40) (N := 80) (by decide) (by decide) hj0 c))) hm rfl
    exact pr40 h1 h2 h0 hk n9 _ (nn_up hj0 c) g.2 (dOk_upd h g.1)
theorem pr27 {one two : Nat → Int32} (h1 : dOk one) (h2 : dOk two) : ∀ (n9 : Nat) (w : (Nat → Int32) × Int32), 0 ≤ w.2 → dOk w.1 → dOk (LX12_productOfDecimals_27 one two n9 w).1
  | 0, _, _, h => h
  | n9 + 1, w, h0, h => by
    obtain ⟨g, e⟩ : ∃ g, g = LX12_productOfDecimals_40 one two w (msU 40 0 + 1) (w.1, 0, 0) := ⟨_, rfl⟩
    have hs : LX12_productOfDecimals_27 one two (n9 + 1) w = if 32 ≤ w.2 then (w.1, w.2) else LX12_productOfDecimals_27 one two n9 (g.1, w.2 + 1) := by rw [e]; rfl
    rw [hs]
    by_cases c : 32 ≤ w.2
    · rw [if_pos c]; exact h
    rw [if_neg c]
    refine pr27 h1 h2 n9 (g.1, w.2 + 1) (nn_up h0 c) ?_
    show dOk g.1
    rw [e]
    exact pr40 h1 h2 h0 c _ (w.1, 0, 0) (show (0 : Int32) ≤ 0 by decide) (show dgI 0 by decide) h
theorem pr3 (f : Nat → Int32) : dOk (LX12_productOfDecimals_3 (msU 80 0 + 1) (f, 0)).1 := fun j hj => by
  have k80 : (80 : Int32).toInt = 80 := by decide
  have h := fill_0 (L := LX12_productOfDecimals_3) (B := 80) (e := fun _ => 0) (fun _ _ => rfl) (fun _ x => x = 0) (fun _ _ _ => rfl) f j (by omega)
  rw [h]
  decide
theorem m_product {x0 : Int32} {x1 : Int32} {x2 : Int32} {v_oneB : Int32} {v_twoB : Int32} {v_mF : (Nat → Int32)} {v_oneF : (Nat → Int32)} {v_twoF : (Nat → Int32)} {v_mmF : (Nat → Int32)} (hn : 1 ≤ (x1 + 1).toInt ∧ (x1 + 1).toInt ≤ 16) (h1 : dOk v_oneF) (h2 : dOk v_twoF) (h : mOk v_mF) : mOk (fX12_productOfDecimals x0 x1 x2 v_oneB v_twoB v_mF v_oneF v_twoF v_mmF).1 := by
  obtain ⟨g, e⟩ : ∃ g, g = LX12_productOfDecimals_3 (msU 80 0 + 1) (v_mmF, 0) := ⟨_, rfl⟩
  obtain ⟨g2, e2⟩ : ∃ g2, g2 = LX12_productOfDecimals_27 v_oneF v_twoF (msU 32 0 + 1) (g.1, 0) := ⟨_, rfl⟩
  simp only [fX12_productOfDecimals, ← e, ← e2]
  refine m_putDecimal hn ?_ h
  rw [e2]
  exact pr27 h1 h2 _ (g.1, 0) (show (0 : Int32) ≤ 0 by decide) (by rw [e]; exact pr3 v_mmF)
/-- the quotient's digits: each subtraction once, at most nine times -/
theorem q102 {two : Nat → Int32} (h2 : dOk two) (hp : 0 < val two) {w53 : (Nat → Int32) × (Nat → Int32) × (Nat → Int32) × Int32} (hk : vp_in w53.2.2.2 80) : ∀ (n9 : Nat) (w : (Nat → Int32) × (Nat → Int32) × (Nat → Int32) × Int32) (c : Nat), val w.2.1 < n9 → dOk w.2.1 → c ≤ 10 → (w.2.2.1 w53.2.2.2.toNatClampNeg).toInt = c → val w.2.1 < (10 - c) * val two → val (LX12_quotientOfDecimals_102 two w53 n9 w).2.1 < val two ∧ dgI ((LX12_quotientOfDecimals_102 two w53 n9 w).2.2.1 w53.2.2.2.toNatClampNeg) ∧ ∀ j, j ≠ w53.2.2.2.toNatClampNeg → (LX12_quotientOfDecimals_102 two w53 n9 w).2.2.1 j = w.2.2.1 j := by
  intro n9
  induction n9 with
  | zero => intro w c h; exact absurd h (Nat.not_lt_zero _)
  | succ n9 ih =>
    intro w c hm hr hc hq hlt
    obtain ⟨g, e⟩ : ∃ g, g = LX12_quotientOfDecimals_132 (fX12_addDigits (-1) w.1 w.2.1 two) (msU 80 0 + 1) (w.2.1, 0) := ⟨_, rfl⟩
    rw [q102_step two w53 n9 w g e]
    have hc9 : c ≤ 9 := by
      refine Nat.le_of_lt_succ (Nat.lt_of_le_of_ne hc (fun q => ?_))
      rw [q, show 10 - Nat.succ 9 = 0 by decide, Nat.zero_mul] at hlt
      exact Nat.not_lt_zero _ hlt
    by_cases cc : fX12_order w.2.1 two < 0
    · rw [if_pos cc]
      refine ⟨(or_val hr h2 rfl).1 cc, ?_, fun _ _ => rfl⟩
      show 0 ≤ (w.2.2.1 w53.2.2.2.toNatClampNeg).toInt ∧ (w.2.2.1 w53.2.2.2.toNatClampNeg).toInt < 10
      omega
    rw [if_neg cc]
    obtain ⟨v1, v2⟩ := qd_val h2 hr rfl cc rfl e
    obtain ⟨i1, i2, i3⟩ := ih (fX12_addDigits (-1) w.1 w.2.1 two, g.1, upd w.2.2.1 w53.2.2.2.toNatClampNeg (w.2.2.1 w53.2.2.2.toNatClampNeg + 1), g.2) (c + 1) (by show val g.1 < n9; omega) (qd_sub h2 hr rfl e) (by omega) (by
      show (upd w.2.2.1 w53.2.2.2.toNatClampNeg (w.2.2.1 w53.2.2.2.toNatClampNeg + 1) w53.2.2.2.toNatClampNeg).toInt = ((c + 1 : Nat) : Int)
      rw [pk_us, add1_i (by omega) (by omega), hq]
      omega) (by
      show val g.1 < (10 - (c + 1)) * val two
      have h5 : (10 - c) * val two = (10 - (c + 1)) * val two + val two := by
        rw [← Nat.succ_mul]
        congr 1
        omega
      omega)
    refine ⟨i1, i2, fun j hj => ?_⟩
    rw [i3 j hj]
    exact pk_un hj
theorem sh_val {one rest f : Nat → Int32} {k : Int32} {g : (Nat → Int32) × Int32} (h1 : dOk one) (hk : k ≤ 40) (c : ¬ k < 0) (eg : g = LX12_quotientOfDecimals_62 (msD 79 + 1) (rest, 79)) (ef : f = upd g.1 (0 : Int32).toNatClampNeg (one k.toNatClampNeg)) : val f ≤ 10 * val rest + 9 := by
  have hk2 := Int32.le_iff_toInt_le.mp hk
  have k40 : (40 : Int32).toInt = 40 := by decide
  have hk3 := le0 (Int32.not_lt.mp c)
  have hk4 := clamp_i hk3
  have hs : ∀ n, n ≤ 79 → vN f (n + 1) = (f 0).toInt.toNat + 10 * vN rest n := by
    intro n
    induction n with
    | zero => intro _; show 0 + (f 0).toInt.toNat * 10 ^ 0 = (f 0).toInt.toNat + 10 * 0; omega
    | succ n ih =>
      intro hn
      have h5 : f (n + 1) = rest n := by
        rw [ef, pk_un (by rw [show (0 : Int32).toNatClampNeg = 0 by decide]; omega)]
        exact sh_end eg n (by omega)
      rw [vN_s f (n + 1), ih (by omega), h5, vN_s rest n, p10, Nat.mul_add, ← Nat.mul_assoc, ← Nat.mul_assoc, Nat.mul_comm (rest n).toInt.toNat 10]
      omega
  have h6 := hs 79 (by omega)
  have h7 := vN_up (f := rest) (n := 79) 1
  have h8 : f 0 = one k.toNatClampNeg := by rw [ef, show (0 : Int32).toNatClampNeg = 0 by decide, pk_us]
  have h9 := h1 k.toNatClampNeg (by omega)
  rw [val_eq, val_eq]
  have h10 : vN f 80 = (f 0).toInt.toNat + 10 * vN rest 79 := h6
  have h11 : vN rest 79 ≤ vN rest 80 := h7
  rw [h10, h8]
  omega
theorem q53 {one two : Nat → Int32} (h1 : dOk one) (h2 : dOk two) (hp : 0 < val two) : ∀ (n9 : Nat) (w : (Nat → Int32) × (Nat → Int32) × (Nat → Int32) × Int32), msD w.2.2.2 < n9 → w.2.2.2 ≤ 40 → dOk w.2.1 → val w.2.1 < val two → dOk w.2.2.1 → (∀ j : Nat, (j : Int) ≤ w.2.2.2.toInt → w.2.2.1 j = 0) → dOk (LX12_quotientOfDecimals_53 one two n9 w).2.1 ∧ dOk (LX12_quotientOfDecimals_53 one two n9 w).2.2.1 := by
  intro n9
  induction n9 with
  | zero => intro w h; exact absurd h (Nat.not_lt_zero _)
  | succ n9 ih =>
    intro w hm hk hr hv ho hz
    obtain ⟨g, eg⟩ : ∃ g, g = LX12_quotientOfDecimals_62 (msD 79 + 1) (w.2.1, 79) := ⟨_, rfl⟩
    obtain ⟨f, ef⟩ : ∃ f, f = upd g.1 (0 : Int32).toNatClampNeg (one w.2.2.2.toNatClampNeg) := ⟨_, rfl⟩
    obtain ⟨G, eG⟩ : ∃ G, G = LX12_quotientOfDecimals_102 two w (val f + 1) (w.1, f, w.2.2.1, g.2) := ⟨_, rfl⟩
    obtain ⟨k', ek⟩ : ∃ k', k' = w.2.2.2 + (-1) := ⟨_, rfl⟩
    have hs : LX12_quotientOfDecimals_53 one two (n9 + 1) w = if w.2.2.2 < 0 then (w.1, w.2.1, w.2.2.1, w.2.2.2) else LX12_quotientOfDecimals_53 one two n9 (G.1, G.2.1, G.2.2.1, k') := by rw [ek, eG, ef, eg]; rfl
    rw [hs]
    by_cases c : w.2.2.2 < 0
    · rw [if_pos c]; exact ⟨hr, ho⟩
    rw [if_neg c]
    have hk2 := Int32.le_iff_toInt_le.mp hk
    have k40 : (40 : Int32).toInt = 40 := by decide
    have hk3 := le0 (Int32.not_lt.mp c)
    have hk4 := clamp_i hk3
    have hin : vp_in w.2.2.2 80 := vin_dn (T := 40) (by decide) c hk
    have hf := qd_shift h1 hk c hr eg ef
    have hfv := sh_val h1 hk c eg ef
    have z0 : w.2.2.1 w.2.2.2.toNatClampNeg = 0 := hz _ (by omega)
    have q := q102 h2 hp hin (val f + 1) (w.1, f, w.2.2.1, g.2) 0 (Nat.lt_succ_self _) hf (by omega) (by
      show (w.2.2.1 w.2.2.2.toNatClampNeg).toInt = ((0 : Nat) : Int)
      rw [z0]; decide) (by
      show val f < (10 - 0) * val two
      omega)
    have hkp := qd_keep h2 (w53 := w) (val f + 1) (w.1, f, w.2.2.1, g.2) hf
    rw [← eG] at q hkp
    obtain ⟨q1, q2, q3⟩ := q
    have hd := dn_toInt c
    have a1 : msD k' < n9 := by rw [ek]; exact Nat.lt_of_lt_of_le (ms_dn c) (Nat.le_of_lt_succ hm)
    have a2 : k' ≤ 40 := by rw [ek]; exact le_dn hk c
    have a3 : dOk G.2.2.1 := fun j hj => by
      by_cases ej : j = w.2.2.2.toNatClampNeg
      · rw [ej]; exact q2
      · rw [q3 j ej]; exact ho j hj
    have a4 : ∀ j : Nat, (j : Int) ≤ k'.toInt → G.2.2.1 j = 0 := fun j hj => by
      rw [ek, hd] at hj
      have hj2 : (j : Int) < w.2.2.2.toInt := Int.lt_of_le_sub_one hj
      rw [q3 j (fun ej => by rw [ej, hk4] at hj2; exact Int.lt_irrefl _ hj2)]
      exact hz j (Int.le_of_lt hj2)
    exact ih (G.1, G.2.1, G.2.2.1, k') a1 a2 hkp q1 a3 a4
theorem cp80 {L : Nat → ((Nat → Int32) × Int32) → ((Nat → Int32) × Int32)} {u : Nat → Int32} (hL : ∀ n w, L (n + 1) w = if 80 ≤ w.2 then (w.1, w.2) else L n (upd w.1 w.2.toNatClampNeg (u w.2.toNatClampNeg), w.2 + 1)) (hu : dOk u) (f : Nat → Int32) : dOk (L (msU 80 0 + 1) (f, 0)).1 := fun j hj => by
  have k80 : (80 : Int32).toInt = 80 := by decide
  rw [fill_0 (L := L) (B := 80) (e := fun w => u w.2.toNatClampNeg) hL (fun j x => x = u j) (fun _ _ _ => rfl) f j (by omega)]
  exact hu j hj
theorem m_quotient {x0 : Int32} {x1 : Int32} {x2 : Int32} {v_wrong : Int32} {v_oneB : Int32} {v_twoB : Int32} {v_mF : (Nat → Int32)} {v_oneF : (Nat → Int32)} {v_twoF : (Nat → Int32)} {v_mmF : (Nat → Int32)} {v_resF : (Nat → Int32)} {v_oldF : (Nat → Int32)} (hm : 0 ≤ x2.toInt ∧ x2.toInt < x1.toInt ∧ x1.toInt ≤ 15) (h1 : dOk v_oneF) (h2 : dOk v_twoF) (h : mOk v_mF) : mOk (fX12_quotientOfDecimals x0 x1 x2 v_wrong v_oneB v_twoB v_mF v_oneF v_twoF v_mmF v_resF v_oldF).2.1 := by
  obtain ⟨g, e⟩ : ∃ g, g = LX12_quotientOfDecimals_20 (msU 80 0 + 1) (v_resF, v_oldF, 0) := ⟨_, rfl⟩
  obtain ⟨G, eG⟩ : ∃ G, G = LX12_quotientOfDecimals_53 v_oneF v_twoF (msD 40 + 1) (v_mmF, g.1, g.2.1, 40) := ⟨_, rfl⟩
  simp only [fX12_quotientOfDecimals, ← e, ← eG]
  by_cases c : fX12_isZero v_twoF = 0
  · rw [if_pos c]
    have hp := iz_val h2 rfl c
    have hz := z20 e
    have hv : val g.1 = 0 := by
      rw [val_eq, vN_congr 80 (g := fun _ => 0) (fun j hj => (hz j hj).1)]
      have : ∀ n, vN (fun _ => 0) n = 0 := by
        intro n
        induction n with
        | zero => rfl
        | succ n ih => rw [vN_s, ih, show ((0 : Int32)).toInt.toNat = 0 by decide]; omega
      exact this 80
    have k40 : (40 : Int32).toInt = 40 := by decide
    obtain ⟨q1, q2⟩ := q53 h1 h2 hp (msD 40 + 1) (v_mmF, g.1, g.2.1, 40) (Nat.lt_succ_self _) (show (40 : Int32) ≤ 40 by decide) (show dOk g.1 from qd_zero e) (by show val g.1 < _; omega) (fun j hj => by
      show dgI (g.2.1 j)
      rw [(hz j hj).2]; decide) (fun j hj => by
      have hj' : (j : Int) ≤ (40 : Int32).toInt := hj
      exact (hz j (by omega)).2)
    rw [← eG] at q1 q2
    split
    · exact m_putDecimal (qd_n2 hm) (cp80 (L := LX12_quotientOfDecimals_289 G) (u := G.2.1) (fun _ _ => rfl) q1 _) (m_putDecimal (qd_n1 hm) (cp80 (L := LX12_quotientOfDecimals_232 G) (u := G.2.2.1) (fun _ _ => rfl) q2 _) h)
    · exact h
  · rw [if_neg c]; exact h
