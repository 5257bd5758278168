theorem s11 (bF : Nat → Int32) (n : Nat) (a k : Int32) : LX11_sum_4 bF (n + 1) (a, k) = if 8192 ≤ k then (a, k) else LX11_sum_4 bF n (a + fX6_get k bF * (k + 1), k + 1) := rfl
theorem s12 (mF : Nat → Int32) (n : Nat) (a k : Int32) : LX12_sum_9 mF (n + 1) (a, k) = if 8192 ≤ k then (a, k) else LX12_sum_9 mF n (a + mF k.toNatClampNeg * (k + 1), k + 1) := rfl
theorem sm_go {bF mF : Nat → Int32} {d : Int32} (n : Nat) : ∀ (j : Nat) (acc : Int32), j ≤ 8192 → (∀ i : Nat, j ≤ i → i < 8192 → fX6_get (nI i) bF = mF i) → (LX11_sum_4 bF n (acc + d, nI j)).1 = (LX12_sum_9 mF n (acc, nI j)).1 + d := by
  induction n with
  | zero => intro j acc _ _; rfl
  | succ n ih =>
    intro j acc hj h
    by_cases c : (8192 : Int32) ≤ nI j
    · rw [s11, s12, if_pos c, if_pos c]
    · have hj9 : j < 8192 := by
        rcases Nat.lt_or_ge j 8192 with q | q
        · exact q
        · have e : j = 8192 := by omega
          subst e
          exact absurd (by decide) c
      rw [s11, s12, if_neg c, if_neg c, h j (Nat.le_refl _) hj9, nI_clamp (by omega), ← nI_succ, Int32.add_assoc acc d, Int32.add_comm d, ← Int32.add_assoc acc]
      exact ih (j + 1) _ (by omega) (fun i a b => h i (by omega) b)
theorem sm_to {bF mF : Nat → Int32} {d : Int32} (hd : fX6_get (nI 43) bF * (nI 43 + 1) = mF 43 * (nI 43 + 1) + d) (h : ∀ i : Nat, i < 8192 → i ≠ 43 → fX6_get (nI i) bF = mF i) (n : Nat) : ∀ (j : Nat) (acc : Int32), j ≤ 43 → 43 - j < n → (LX11_sum_4 bF n (acc, nI j)).1 = (LX12_sum_9 mF n (acc, nI j)).1 + d := by
  induction n with
  | zero => intro j acc _ q; exact absurd q (Nat.not_lt_zero _)
  | succ n ih =>
    intro j acc hj hn
    have c : ¬ (8192 : Int32) ≤ nI j := nI_ge (a := j) (b := 8192) (by omega) (by decide)
    rw [s11, s12, if_neg c, if_neg c, nI_clamp (by omega)]
    rcases Nat.lt_or_ge j 43 with q | q
    · rw [h j (by omega) (by omega), ← nI_succ]
      exact ih (j + 1) _ (by omega) (by omega)
    · have e : j = 43 := by omega
      subst e
      rw [hd, ← Int32.add_assoc, ← nI_succ]
      exact sm_go n 44 _ (by decide) (fun i a b => h i b (by omega))
theorem sm_all {bF mF : Nat → Int32} {d t : Int32} (hd : fX6_get (nI 43) bF * (nI 43 + 1) = mF 43 * (nI 43 + 1) + d) (h : ∀ a : Nat, a < 64 → ∀ b : Nat, b < 128 → 128 * a + b = 43 ∨ fX6_get (nI (128 * a + b)) bF = mF (128 * a + b)) : fX11_sum bF = (fX12_sum t mF).1 + d := by
  show (LX11_sum_4 bF (msU 8192 0 + 1) (0, nI 0)).1 = (LX12_sum_9 mF (msU 8192 0 + 1) (0, nI 0)).1 + d
  rw [E_msU]
  refine sm_to hd (fun i a b => ?_) _ 0 0 (by decide) (by decide +kernel)
  have g := h (i / 128) (by omega) (i % 128) (by omega)
  rw [Nat.div_add_mod] at g
  exact g.resolve_left b
