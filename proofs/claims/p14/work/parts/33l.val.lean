/-! the number that digits make -/
def vN (f : Nat → Int32) : Nat → Nat
  | 0 => 0
  | n + 1 => vN f n + (f n).toInt.toNat * 10 ^ n
noncomputable def val (f : Nat → Int32) : Nat := Classical.choose (⟨vN f 80, rfl⟩ : ∃ x : Nat, x = vN f 80)
theorem val_eq (f : Nat → Int32) : val f = vN f 80 := Classical.choose_spec (⟨vN f 80, rfl⟩ : ∃ x : Nat, x = vN f 80)
theorem vN_s (f : Nat → Int32) (n : Nat) : vN f (n + 1) = vN f n + (f n).toInt.toNat * 10 ^ n := rfl
theorem p10 (n : Nat) : 10 ^ (n + 1) = 10 * 10 ^ n := by rw [Nat.pow_succ, Nat.mul_comm]
theorem vN_lt {f : Nat → Int32} (h : dOk f) : ∀ n, n ≤ 80 → vN f n < 10 ^ n
  | 0, _ => show (0 : Nat) < 1 by decide
  | n + 1, hn => by
    have h1 := vN_lt h n (by omega)
    have h2 := h n (by omega)
    have h3 : (f n).toInt.toNat ≤ 9 := by omega
    have h4 : (f n).toInt.toNat * 10 ^ n ≤ 9 * 10 ^ n := Nat.mul_le_mul_right _ h3
    rw [vN_s, p10]
    omega
theorem vN_congr {f g : Nat → Int32} : ∀ n, (∀ j, j < n → f j = g j) → vN f n = vN g n
  | 0, _ => rfl
  | n + 1, h => by rw [vN_s, vN_s, vN_congr n (fun j hj => h j (by omega)), h n (by omega)]
theorem vN_up {f : Nat → Int32} {n : Nat} : ∀ k, vN f n ≤ vN f (n + k)
  | 0 => Nat.le_refl _
  | k + 1 => Nat.le_trans (vN_up k) (Nat.le_add_right _ _)
/-- digits that are alike from n on -/
theorem vN_tail {f g : Nat → Int32} {n : Nat} : ∀ k, (∀ j, n ≤ j → j < n + k → f j = g j) → vN f (n + k) + vN g n = vN g (n + k) + vN f n
  | 0, _ => Nat.add_comm _ _
  | k + 1, h => by
    have h1 := vN_tail (n := n) k (fun j h1 h2 => h j h1 (by omega))
    have h2 := h (n + k) (by omega) (by omega)
    show vN f (n + k) + (f (n + k)).toInt.toNat * 10 ^ (n + k) + vN g n = vN g (n + k) + (g (n + k)).toInt.toNat * 10 ^ (n + k) + vN f n
    rw [h2]
    omega
/-- order: which of two is less -/
theorem or_loop {aa ab : Nat → Int32} (ha : dOk aa) (hb : dOk ab) : ∀ (n9 : Nat) (i : Nat), i ≤ 80 → i < n9 → (∀ j, i ≤ j → j < 80 → aa j = ab j) → ((LX12_order_3 aa ab n9 (nI i + (-1))).2 = 1 ∧ vN aa 80 = vN ab 80) ∨ ((LX12_order_3 aa ab n9 (nI i + (-1))).2 = 0 ∧ ((ab (LX12_order_3 aa ab n9 (nI i + (-1))).1.toNatClampNeg ≤ aa (LX12_order_3 aa ab n9 (nI i + (-1))).1.toNatClampNeg ∧ vN ab 80 < vN aa 80) ∨ (¬ ab (LX12_order_3 aa ab n9 (nI i + (-1))).1.toNatClampNeg ≤ aa (LX12_order_3 aa ab n9 (nI i + (-1))).1.toNatClampNeg ∧ vN aa 80 < vN ab 80)))
  | 0, _, _, h, _ => absurd h (Nat.not_lt_zero _)
  | n9 + 1, 0, _, _, hI => by
    simp only [LX12_order_3]
    rw [if_pos (show nI 0 + (-1) < 0 by decide)]
    exact Or.inl ⟨rfl, vN_congr 80 (fun j hj => hI j (by omega) hj)⟩
  | n9 + 1, i + 1, hi, hm, hI => by
    have e1 : nI (i + 1) + (-1) = nI i := pk_m1 i
    rw [e1]
    simp only [LX12_order_3]
    have hc : (nI i).toNatClampNeg = i := nI_clamp (by omega)
    rw [if_neg (nI_pos (by omega)), hc]
    by_cases c : aa i = ab i
    · rw [if_pos c]
      refine or_loop ha hb n9 i (by omega) (by omega) (fun j h1 h2 => ?_)
      by_cases ej : j = i
      · rw [ej]; exact c
      · exact hI j (by omega) h2
    · rw [if_neg c]
      refine Or.inr ⟨rfl, ?_⟩
      show (ab (nI i).toNatClampNeg ≤ aa (nI i).toNatClampNeg ∧ vN ab 80 < vN aa 80) ∨ (¬ ab (nI i).toNatClampNeg ≤ aa (nI i).toNatClampNeg ∧ vN aa 80 < vN ab 80)
      rw [hc]
      have hai := ha i (by omega)
      have hbi := hb i (by omega)
      have la := vN_lt ha i (by omega)
      have lb := vN_lt hb i (by omega)
      obtain ⟨k, hk⟩ : ∃ k, 80 = (i + 1) + k := ⟨80 - (i + 1), by omega⟩
      have ht := vN_tail (f := aa) (g := ab) (n := i + 1) k (fun j h1 h2 => hI j (by omega) (by omega))
      rw [← hk, vN_s ab i, vN_s aa i] at ht
      have hne : (aa i).toInt ≠ (ab i).toInt := fun e => c (Int32.toInt_inj.mp e)
      by_cases hl : ab i ≤ aa i
      · have hl' := Int32.le_iff_toInt_le.mp hl
        refine Or.inl ⟨hl, ?_⟩
        have h5 : (ab i).toInt.toNat + 1 ≤ (aa i).toInt.toNat := by omega
        have h6 := Nat.mul_le_mul_right (10 ^ i) h5
        rw [Nat.add_mul, Nat.one_mul] at h6
        omega
      · have hl' := Int32.lt_iff_toInt_lt.mp (Int32.not_le.mp hl)
        refine Or.inr ⟨hl, ?_⟩
        have h5 : (aa i).toInt.toNat + 1 ≤ (ab i).toInt.toNat := by omega
        have h6 := Nat.mul_le_mul_right (10 ^ i) h5
        rw [Nat.add_mul, Nat.one_mul] at h6
        omega
theorem or_val {aa ab : Nat → Int32} {r : Int32} (ha : dOk aa) (hb : dOk ab) (e : r = fX12_order aa ab) : (r < 0 → val aa < val ab) ∧ (¬ r < 0 → val ab ≤ val aa) := by
  rw [val_eq, val_eq]
  have h79 : (79 : Int32) = nI 80 + (-1) := by decide
  have hm : 80 < msD 79 + 1 := by
    rw [msD_eq]
    have k79 : (79 : Int32).toInt = 79 := by decide
    omega
  have h := or_loop ha hb (msD 79 + 1) 80 (by omega) hm (fun j h1 h2 => absurd h1 (by omega))
  rw [← h79] at h
  simp only [fX12_order] at e
  rcases h with ⟨h1, h2⟩ | ⟨h1, h2⟩
  · rw [if_neg (by rw [h1]; decide)] at e
    rw [e]
    exact ⟨fun h => absurd h (by decide), fun _ => by omega⟩
  · rw [if_pos h1] at e
    rcases h2 with ⟨h3, h4⟩ | ⟨h3, h4⟩
    · rw [if_pos h3] at e
      rw [e]
      exact ⟨fun h => absurd h (by decide), fun _ => by omega⟩
    · rw [if_neg h3] at e
      rw [e]
      exact ⟨fun _ => h4, fun h => absurd (by decide) h⟩
/-- digits that are not all 0 -/
theorem iz_loop {aa : Nat → Int32} : ∀ (n9 : Nat) (i : Nat), i ≤ 80 → 80 - i < n9 → (LX12_isZero_2 aa n9 (nI i)).2 = 0 → ∃ j, j < 80 ∧ ¬ aa j = 0
  | 0, _, _, h, _ => absurd h (Nat.not_lt_zero _)
  | n9 + 1, i, hi, hm, h => by
    simp only [LX12_isZero_2] at h
    by_cases c : 80 ≤ nI i
    · rw [if_pos c] at h; exact absurd h (show ¬ (1 : Nat) = 0 by decide)
    rw [if_neg c] at h
    have hlt : i < 80 := by
      have := lt_i c
      rw [nI_toInt (by omega)] at this
      have k80 : (80 : Int32).toInt = 80 := by decide
      omega
    rw [nI_clamp (by omega)] at h
    by_cases c2 : aa i = 0
    · rw [if_pos c2, nI_1] at h
      exact iz_loop n9 (i + 1) (by omega) (by omega) h
    · exact ⟨i, hlt, c2⟩
theorem vN_pos {f : Nat → Int32} {j : Nat} (h : 0 < (f j).toInt) {n : Nat} (hj : j < n) : 0 < vN f n := by
  obtain ⟨k, hk⟩ : ∃ k, n = (j + 1) + k := ⟨n - (j + 1), by omega⟩
  have h1 := vN_up (f := f) (n := j + 1) k
  rw [← hk, vN_s] at h1
  have h2 : 0 < (f j).toInt.toNat * 10 ^ j := Nat.mul_pos (by omega) (Nat.pow_pos (by decide))
  omega
theorem iz_val {aa : Nat → Int32} {r : Int32} (ha : dOk aa) (e : r = fX12_isZero aa) (h : r = 0) : 0 < val aa := by
  simp only [fX12_isZero] at e
  rw [h] at e
  have hm : 80 - 0 < msU 80 0 + 1 := by
    rw [msU_eq]
    have k79 : (80 : Int32).toInt = 80 := by decide
    have k0 : (0 : Int32).toInt = 0 := by decide
    omega
  by_cases c : (LX12_isZero_2 aa (msU 80 0 + 1) 0).2 = 0
  · obtain ⟨j, hj, hne⟩ := iz_loop (msU 80 0 + 1) 0 (by omega) hm c
    have h1 := ha j hj
    have h2 := ne0_i hne
    rw [val_eq]
    exact vN_pos (j := j) (by omega) hj
  · rw [if_neg c] at e
    exact absurd e (by decide)
/-! sum and difference of digits -/
theorem neg1_mul (x : Int32) (h : 0 ≤ x.toInt) : ((-1) * x).toInt = -x.toInt := by
  have k : (-1 : Int32).toInt = -1 := by decide
  have h2 : x.toInt < 2 ^ 31 := Int32.toInt_lt x
  rw [mul_toInt (by rw [k]; omega) (by rw [k]; omega), k]
  omega
theorem one_mul32 (x : Int32) : (1 * x).toInt = x.toInt := by
  have k : (1 : Int32).toInt = 1 := by decide
  have h2 : x.toInt < 2 ^ 31 := Int32.toInt_lt x
  have h3 : -2 ^ 31 ≤ x.toInt := Int32.le_toInt x
  rw [mul_toInt (by rw [k]; omega) (by rw [k]; omega), k]
  omega
abbrev moI (s m : Int32) : Prop := (s = 1 ∧ (m = 0 ∨ m = 1)) ∨ (s = -1 ∧ (m = 0 ∨ m = -1))
/-- one place: what comes, and what goes on -/
theorem ad_one {s a b m x m2 : Int32} (ha : dgI a) (hb : dgI b) (hm : moI s m) (ex : x = (a + s * b) + m) (em : m2 = if x ≤ 9 then (if 0 ≤ x then 0 else (-1)) else 1) : moI s m2 ∧ dgI (x - 10 * m2) ∧ (s = -1 → (x - 10 * m2).toInt = a.toInt - b.toInt + m.toInt - 10 * m2.toInt) := by
  have k0 : (0 : Int32).toInt = 0 := by decide
  have k1 : (1 : Int32).toInt = 1 := by decide
  have km : (-1 : Int32).toInt = -1 := by decide
  have k9 : (9 : Int32).toInt = 9 := by decide
  have k10 : (10 : Int32).toInt = 10 := by decide
  have hx : (s = 1 ∧ x.toInt = a.toInt + b.toInt + m.toInt ∧ 0 ≤ m.toInt ∧ m.toInt ≤ 1) ∨ (s = -1 ∧ x.toInt = a.toInt - b.toInt + m.toInt ∧ -1 ≤ m.toInt ∧ m.toInt ≤ 0) := by
    rcases hm with ⟨rfl, hm⟩ | ⟨rfl, hm⟩
    · refine Or.inl ⟨rfl, ?_, ?_⟩
      · have e1 := one_mul32 b
        have hmm : m.toInt = 0 ∨ m.toInt = 1 := by rcases hm with rfl | rfl <;> simp [k0, k1]
        have e2 : (a + 1 * b).toInt = a.toInt + b.toInt := by rw [add_toInt (by omega) (by omega), e1]
        rw [ex, add_toInt (by omega) (by omega), e2]
      · rcases hm with rfl | rfl <;> omega
    · refine Or.inr ⟨rfl, ?_, ?_⟩
      · have e1 := neg1_mul b hb.1
        have hmm : m.toInt = 0 ∨ m.toInt = -1 := by rcases hm with rfl | rfl <;> simp [k0, km]
        have e2 : (a + (-1) * b).toInt = a.toInt - b.toInt := by rw [add_toInt (by omega) (by omega), e1]; omega
        rw [ex, add_toInt (by omega) (by omega), e2]
      · rcases hm with rfl | rfl <;> omega
  have hr : -2147483648 ≤ x.toInt - 10 * m2.toInt ∧ x.toInt - 10 * m2.toInt < 2147483648 ∧ -2147483648 ≤ 10 * m2.toInt ∧ 10 * m2.toInt < 2147483648 := by
    have : m2.toInt = 0 ∨ m2.toInt = 1 ∨ m2.toInt = -1 := by
      rw [em]
      (repeat' split) <;> simp [k0, k1, km]
    omega
  have hsub : (x - 10 * m2).toInt = x.toInt - 10 * m2.toInt := by
    have e3 : (10 * m2).toInt = 10 * m2.toInt := by rw [mul_toInt (by rw [k10]; omega) (by rw [k10]; omega), k10]
    rw [sub_toInt (by omega) (by omega), e3]
  have hd : (x.toInt ≤ 9 ∧ 0 ≤ x.toInt ∧ m2 = 0) ∨ (x.toInt < 0 ∧ m2 = -1) ∨ (9 < x.toInt ∧ m2 = 1) := by
    by_cases c : x ≤ 9
    · have c' := Int32.le_iff_toInt_le.mp c
      rw [if_pos c] at em
      by_cases c2 : 0 ≤ x
      · rw [if_pos c2] at em
        have := le0 c2
        exact Or.inl ⟨by omega, by omega, em⟩
      · rw [if_neg c2] at em
        have := Int32.lt_iff_toInt_lt.mp (Int32.not_le.mp c2)
        exact Or.inr (Or.inl ⟨by omega, em⟩)
    · rw [if_neg c] at em
      have := Int32.lt_iff_toInt_lt.mp (Int32.not_le.mp c)
      exact Or.inr (Or.inr ⟨by omega, em⟩)
  show moI s m2 ∧ (0 ≤ (x - 10 * m2).toInt ∧ (x - 10 * m2).toInt < 10) ∧ _
  rw [hsub]
  rcases hx with ⟨hs, h1, h2, h3⟩ | ⟨hs, h1, h2, h3⟩
  · rcases hd with ⟨d1, d2, d3⟩ | ⟨d1, d3⟩ | ⟨d1, d3⟩
    · refine ⟨Or.inl ⟨hs, Or.inl d3⟩, ?_, fun q => absurd (hs.symm.trans q) (by decide)⟩
      rw [d3]; omega
    · omega
    · refine ⟨Or.inl ⟨hs, Or.inr d3⟩, ?_, fun q => absurd (hs.symm.trans q) (by decide)⟩
      rw [d3]; omega
  · rcases hd with ⟨d1, d2, d3⟩ | ⟨d1, d3⟩ | ⟨d1, d3⟩
    · refine ⟨Or.inr ⟨hs, Or.inl d3⟩, ?_, fun _ => ?_⟩
      · rw [d3]; omega
      · rw [d3]; omega
    · refine ⟨Or.inr ⟨hs, Or.inr d3⟩, ?_, fun _ => ?_⟩
      · rw [d3]; omega
      · rw [d3]; omega
    · omega
theorem ad_step (s : Int32) (aa ab : Nat → Int32) (n9 : Nat) (w : (Nat → Int32) × Int32 × Int32) (x m2 : Int32) (ex : x = (aa w.2.2.toNatClampNeg + s * ab w.2.2.toNatClampNeg) + w.2.1) (em : m2 = if x ≤ 9 then (if 0 ≤ x then 0 else (-1)) else 1) : LX12_addDigits_6 s aa ab (n9 + 1) w = if 80 ≤ w.2.2 then (w.1, w.2.1, w.2.2) else LX12_addDigits_6 s aa ab n9 (upd w.1 w.2.2.toNatClampNeg (x - 10 * m2), m2, w.2.2 + 1) := by
  rw [em, ex]
  rfl
def adI (s : Int32) (aa ab : Nat → Int32) (i : Nat) (md : Nat → Int32) (m : Int32) : Prop := moI s m ∧ (∀ j, j < i → dgI (md j)) ∧ (s = -1 → (vN md i : Int) = vN aa i - vN ab i - m.toInt * (10 ^ i : Nat))
theorem ad_loop {s : Int32} {aa ab : Nat → Int32} (ha : dOk aa) (hb : dOk ab) : ∀ (n9 : Nat) (i : Nat) (md : Nat → Int32) (m : Int32), i ≤ 80 → 80 - i < n9 → adI s aa ab i md m → ∃ m', adI s aa ab 80 (LX12_addDigits_6 s aa ab n9 (md, m, nI i)).1 m'
  | 0, _, _, _, _, h, _ => absurd h (Nat.not_lt_zero _)
  | n9 + 1, i, md, m, hi, hm, hI => by
    rw [ad_step s aa ab n9 (md, m, nI i) _ _ rfl rfl]
    by_cases c : 80 ≤ nI i
    · rw [if_pos c]
      have : i = 80 := by
        have := Int32.le_iff_toInt_le.mp c
        rw [nI_toInt (by omega)] at this
        have k80 : (80 : Int32).toInt = 80 := by decide
        omega
      subst this
      exact ⟨m, hI⟩
    rw [if_neg c]
    have hlt : i < 80 := by
      have := lt_i c
      rw [nI_toInt (by omega)] at this
      have k80 : (80 : Int32).toInt = 80 := by decide
      omega
    have hc : (nI i).toNatClampNeg = i := nI_clamp (by omega)
    have h1 := ad_one (ha i hlt) (hb i hlt) hI.1 rfl rfl
    show ∃ m', adI s aa ab 80 (LX12_addDigits_6 s aa ab n9 (upd md (nI i).toNatClampNeg _, _, nI i + 1)).1 m'
    rw [nI_1]
    refine ad_loop ha hb n9 (i + 1) _ _ (by omega) (by omega) ?_
    rw [hc]
    generalize hx : (aa i + s * ab i) + m = x at h1 ⊢
    generalize hm2 : (if x ≤ 9 then (if 0 ≤ x then (0 : Int32) else (-1)) else 1) = m2 at h1 ⊢
    obtain ⟨g1, g2, g3⟩ := h1
    refine ⟨g1, fun j hj => ?_, fun hs => ?_⟩
    · by_cases ej : j = i
      · rw [ej, pk_us]; exact g2
      · rw [pk_un ej]; exact hI.2.1 j (by omega)
    · have h2 := hI.2.2 hs
      have h3 := g3 hs
      rw [vN_s, vN_s, vN_s, pk_us, vN_congr i (f := upd md i (x - 10 * m2)) (g := md) (fun j hj => pk_un (by omega)), p10]
      have hai := ha i hlt
      have hbi := hb i hlt
      have e1 : (((x - 10 * m2).toInt.toNat : Nat) : Int) = (aa i).toInt - (ab i).toInt + m.toInt - 10 * m2.toInt := by omega
      have e2 : (((aa i).toInt.toNat : Nat) : Int) = (aa i).toInt := by omega
      have e3 : (((ab i).toInt.toNat : Nat) : Int) = (ab i).toInt := by omega
      simp only [Int.natCast_add, Int.natCast_mul, e1, e2, e3, h2]
      generalize ((10 ^ i : Nat) : Int) = P
      simp only [Int.add_mul, Int.sub_mul]
      have e4 : m2.toInt * (((10 : Nat) : Int) * P) = 10 * m2.toInt * P := by
        rw [← Int.mul_assoc, Int.mul_comm m2.toInt]
        rfl
      omega
theorem ad_0 {s : Int32} {aa ab : Nat → Int32} (hs : s = 1 ∨ s = -1) (md : Nat → Int32) : adI s aa ab 0 md 0 := by
  refine ⟨?_, fun j hj => absurd hj (Nat.not_lt_zero _), fun _ => ?_⟩
  · rcases hs with h | h
    · exact Or.inl ⟨h, Or.inl rfl⟩
    · exact Or.inr ⟨h, Or.inl rfl⟩
  · have k0 : (0 : Int32).toInt = 0 := by decide
    rw [k0]
    show ((0 : Nat) : Int) = (0 : Nat) - (0 : Nat) - 0 * _
    omega
theorem ad_end {s : Int32} {aa ab md : Nat → Int32} (ha : dOk aa) (hb : dOk ab) (hs : s = 1 ∨ s = -1) : ∃ m', adI s aa ab 80 (fX12_addDigits s md aa ab) m' := by
  have hm : 80 - 0 < msU 80 0 + 1 := by
    rw [msU_eq]
    have k79 : (80 : Int32).toInt = 80 := by decide
    have k0 : (0 : Int32).toInt = 0 := by decide
    omega
  exact ad_loop ha hb (msU 80 0 + 1) 0 md 0 (by omega) hm (ad_0 hs md)
theorem ad_dig {s : Int32} {aa ab md : Nat → Int32} (ha : dOk aa) (hb : dOk ab) (hs : s = 1 ∨ s = -1) : dOk (fX12_addDigits s md aa ab) := by
  obtain ⟨m', h⟩ := ad_end (md := md) ha hb hs
  exact h.2.1
theorem ad_val {aa ab md : Nat → Int32} (ha : dOk aa) (hb : dOk ab) (h : val ab ≤ val aa) : val (fX12_addDigits (-1) md aa ab) = val aa - val ab := by
  obtain ⟨m', h1, h2, h3⟩ := ad_end (md := md) ha hb (Or.inr rfl)
  have h4 := h3 rfl
  have h5 := vN_lt (f := fX12_addDigits (-1) md aa ab) h2 80 (by omega)
  rw [val_eq, val_eq] at *
  rw [val_eq]
  rcases h1 with ⟨q, -⟩ | ⟨-, hm⟩
  · exact absurd q (by decide)
  generalize vN (fX12_addDigits (-1) md aa ab) 80 = V at *
  generalize vN aa 80 = A at *
  generalize vN ab 80 = B at *
  generalize (10 ^ 80 : Nat) = P at *
  rcases hm with e | e
  · rw [e, show (0 : Int32).toInt = 0 by decide] at h4
    omega
  · rw [e, show (-1 : Int32).toInt = -1 by decide] at h4
    omega
/-! bits of bytes -/
theorem by_bv {x : Int32} : byI x ↔ x.toBitVec.toNat < 256 := by
  have h : x.toInt = x.toBitVec.toInt := rfl
  have h2 : x.toBitVec.toNat < 2 ^ 32 := x.toBitVec.isLt
  show (0 ≤ x.toInt ∧ x.toInt < 256) ↔ _
  rw [h, BitVec.toInt_eq_toNat_cond]
  split <;> omega
theorem by_and {x : Int32} (h : byI x) (y : Int32) : byI (x &&& y) := by
  rw [by_bv] at h ⊢
  rw [Int32.toBitVec_and, BitVec.toNat_and]
  exact Nat.lt_of_le_of_lt Nat.and_le_left h
theorem by_or {x y : Int32} (h : byI x) (h2 : byI y) : byI (x ||| y) := by
  rw [by_bv] at h h2 ⊢
  rw [Int32.toBitVec_or, BitVec.toNat_or]
  exact Nat.or_lt_two_pow (n := 8) h h2
theorem by_xor {x y : Int32} (h : byI x) (h2 : byI y) : byI (x ^^^ y) := by
  rw [by_bv] at h h2 ⊢
  rw [Int32.toBitVec_xor, BitVec.toNat_xor]
  exact Nat.xor_lt_two_pow (n := 8) h h2
theorem by_255 (x : Int32) : byI (x &&& 255) := by
  obtain ⟨j, hj, e⟩ := pk_andE x (m := 255) 8 (by decide)
  have hj' : j < 256 := hj
  show 0 ≤ (x &&& 255).toInt ∧ (x &&& 255).toInt < 256
  rw [e, nI_toInt (by omega)]
  omega
theorem wd_or {f f2 : Nat → Int32} {m x r : Int32} (hW : wdOk f) (em : m = if x = 0 then 0 else (r &&& 255)) (ef : f2 = upd f (1 : Int32).toNatClampNeg (f (1 : Int32).toNatClampNeg ||| m)) : wdOk f2 := fun j hj => by
  have hm : byI m := by
    rw [em]
    by_cases c : x = 0
    · rw [if_pos c]; decide
    · rw [if_neg c]; exact by_255 r
  rw [ef]
  by_cases e : j = (1 : Int32).toNatClampNeg
  · rw [e, pk_us]; exact by_or (hW _ (by decide)) hm
  · rw [pk_un e]; exact hW j hj
