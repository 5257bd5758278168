/-! what 'look' and 'even' say of the places, where nothing wrong is met -/
theorem ne0_i {w : Int32} (h : ¬ w = 0) : w.toInt ≠ 0 := fun e => h (Int32.toInt_inj.mp (e.trans (by decide)))
theorem pos_i {w : Int32} (h : 0 < w.toInt) : 0 < w := by
  rw [Int32.lt_iff_toInt_lt]
  have h5 : (0 : Int32).toInt = 0 := by decide
  omega
theorem npos_i {w : Int32} (h : ¬ 0 < w) : w.toInt ≤ 0 := by
  have h1 := Int32.le_iff_toInt_le.mp (Int32.not_lt.mp h)
  have h5 : (0 : Int32).toInt = 0 := by decide
  omega
theorem nle_pos {w : Int32} (h : w ≤ 0) : ¬ 0 < w := Int32.not_lt.mpr h
theorem zero_i {w : Int32} (h : 0 ≤ w) (h2 : ¬ 0 < w) : w = 0 := by
  have h1 := le0 h
  have h3 := npos_i h2
  exact Int32.toInt_inj.mp (by
    have h5 : (0 : Int32).toInt = 0 := by decide
    omega)
theorem meet_nn {n w : Int32} (hn : 0 ≤ n) (hw : 0 ≤ w) : 0 ≤ fX12_meet n w := by
  simp only [fX12_meet]
  split
  · exact hn
  · split
    · exact hw
    · exact hn
theorem meet_pos {n w : Int32} (hn : 0 < n) (hw : 0 ≤ w) : 0 < fX12_meet n w := by
  simp only [fX12_meet]
  split
  · exact hn
  · rename_i h0
    split
    · have h1 := le0 hw
      have h2 := ne0_i h0
      exact pos_i (by omega)
    · exact hn
noncomputable def lk1 (x0 x2 ky : Int32) (mk : Nat → Int32) (w : Int32 × Int32) : Int32 :=
  if (x0 + w.2) &&& 16777215 < 8192 then (if (if ky = 0 then (0 : Int32) else (if (mk (((x0 + w.2) &&& 16777215) >>> (11 &&& 31) : Int32).toNatClampNeg >>> (1 &&& 31)) = ky then 0 else 1)) = 0 then w.1 else (if x2 = 0 then (if (mk (((x0 + w.2) &&& 16777215) >>> (11 &&& 31) : Int32).toNatClampNeg &&& 1) = 1 then fX12_meet 4 w.1 else w.1) else fX12_meet 4 w.1)) else fX12_meet 5 w.1
theorem lk_step (x0 x1 x2 ky : Int32) (mk : Nat → Int32) (n9 : Nat) (w : Int32 × Int32) : LX12_look_3 x0 x1 x2 ky mk (n9 + 1) w = if x1 ≤ w.2 then (w.1, w.2) else LX12_look_3 x0 x1 x2 ky mk n9 (lk1 x0 x2 ky mk w, w.2 + 1) := rfl
theorem lk1_nn {x0 x2 ky : Int32} {mk : Nat → Int32} {w : Int32 × Int32} (h : 0 ≤ w.1) : 0 ≤ lk1 x0 x2 ky mk w := by
  unfold lk1
  (repeat' split) <;> first | exact h | exact meet_nn (by decide) h
theorem ne_meet {n w : Int32} (hn : 0 < n) (hw : 0 ≤ w) : ¬ fX12_meet n w = 0 := fun e => by
  have h := meet_pos hn hw
  rw [e] at h
  exact absurd h (by decide)
theorem lk1_ok {x0 x2 ky : Int32} {mk : Nat → Int32} {w : Int32 × Int32} (h : 0 ≤ w.1) (e : lk1 x0 x2 ky mk w = 0) : w.1 = 0 ∧ (x0 + w.2) &&& 16777215 < 8192 := by
  unfold lk1 at e
  by_cases c : (x0 + w.2) &&& 16777215 < 8192
  · rw [if_pos c] at e
    refine ⟨?_, c⟩
    revert e
    (repeat' split) <;> intro e <;> first | exact e | exact absurd e (ne_meet (by decide) h)
  · rw [if_neg c] at e
    exact absurd e (ne_meet (by decide) h)
theorem look_nn (x0 x1 x2 ky : Int32) (mk : Nat → Int32) : ∀ (n9 : Nat) (w : Int32 × Int32), 0 ≤ w.1 → 0 ≤ (LX12_look_3 x0 x1 x2 ky mk n9 w).1
  | 0, _, h => h
  | n9 + 1, w, h => by
    rw [lk_step]
    by_cases c : x1 ≤ w.2
    · rw [if_pos c]; exact h
    · rw [if_neg c]; exact look_nn x0 x1 x2 ky mk n9 _ (lk1_nn h)
theorem look_nn' {a n z ky w : Int32} {mk : Nat → Int32} (h : 0 ≤ w) : 0 ≤ fX12_look a n z ky w mk := look_nn a n z ky mk _ (w, 0) h
theorem look_all (x0 x1 x2 ky : Int32) (mk : Nat → Int32) : ∀ (n9 : Nat) (w : Int32 × Int32), msU x1 w.2 < n9 → 0 ≤ w.1 → ¬ 0 < (LX12_look_3 x0 x1 x2 ky mk n9 w).1 → w.1 = 0 ∧ ∀ j : Int32, w.2.toInt ≤ j.toInt → j.toInt < x1.toInt → (x0 + j) &&& 16777215 < 8192
  | 0, _, hm, _, _ => absurd hm (Nat.not_lt_zero _)
  | n9 + 1, w, hm, h, hr => by
    rw [lk_step] at hr
    by_cases c1 : x1 ≤ w.2
    · rw [if_pos c1] at hr
      refine ⟨zero_i h hr, fun j h1 h2 => ?_⟩
      have h3 := Int32.le_iff_toInt_le.mp c1
      omega
    · rw [if_neg c1] at hr
      have hm2 : msU x1 (w.2 + 1) < n9 := Nat.lt_of_lt_of_le (ms_up c1) (Nat.le_of_lt_succ hm)
      have hadd : (w.2 + 1).toInt = w.2.toInt + 1 := by
        have h2 := lt_i c1
        have h3 : x1.toInt < 2 ^ 31 := Int32.toInt_lt x1
        have h4 : -2 ^ 31 ≤ w.2.toInt := Int32.le_toInt w.2
        have h5 : (1 : Int32).toInt = 1 := by decide
        rw [add_toInt (by omega) (by omega), h5]
      obtain ⟨e1, h1⟩ := look_all x0 x1 x2 ky mk n9 (lk1 x0 x2 ky mk w, w.2 + 1) hm2 (lk1_nn h) hr
      obtain ⟨e2, c2⟩ := lk1_ok h e1
      refine ⟨e2, fun j hj1 hj2 => ?_⟩
      by_cases hj3 : j.toInt = w.2.toInt
      · rw [Int32.toInt_inj.mp hj3]; exact c2
      · refine h1 j ?_ hj2
        show (w.2 + 1).toInt ≤ j.toInt
        omega
theorem and24_id {a : Int32} (h : in24 a) : a &&& 16777215 = a := by
  obtain ⟨h1, h2⟩ := h
  obtain ⟨j, hj, e⟩ := nI_of (x := a) (by
    rw [Int32.lt_iff_toInt_lt]
    have h5 : (0 : Int32).toInt = 0 := by decide
    omega)
  rw [e] at h1 h2 ⊢
  rw [nI_toInt hj] at h1 h2
  rw [pk_andN (by omega) (m := 16777215) 24 (by decide), Nat.mod_eq_of_lt (by omega)]
theorem look_ok {a n z ky w : Int32} {mk : Nat → Int32} (hw : 0 ≤ w) (ha : in24 a) (hn : 0 < n.toInt) (hn2 : n.toInt ≤ 4096) (h : ¬ 0 < fX12_look a n z ky w mk) : w = 0 ∧ inM a n := by
  obtain ⟨e, hj⟩ := look_all a n z ky mk (msU n 0 + 1) (w, 0) (Nat.lt_succ_self _) hw h
  refine ⟨e, ?_⟩
  have k0 : (0 : Int32).toInt = 0 := by decide
  have k1 : (1 : Int32).toInt = 1 := by decide
  have k8 : (8192 : Int32).toInt = 8192 := by decide
  obtain ⟨ha1, ha2⟩ := ha
  have g0 := hj 0 (by dsimp only; omega) (by omega)
  have e0 : (a + 0).toInt = a.toInt := by rw [add_toInt (by omega) (by omega)]; omega
  rw [and24_id (show in24 (a + 0) from ⟨by omega, by omega⟩)] at g0
  have g0' := Int32.lt_iff_toInt_lt.mp g0
  have en : (n - 1).toInt = n.toInt - 1 := by rw [sub_toInt (by omega) (by omega), k1]
  have g1 := hj (n - 1) (by dsimp only; omega) (by omega)
  have e1 : (a + (n - 1)).toInt = a.toInt + n.toInt - 1 := by rw [add_toInt (by omega) (by omega)]; omega
  rw [and24_id (show in24 (a + (n - 1)) from ⟨by omega, by omega⟩)] at g1
  have g1' := Int32.lt_iff_toInt_lt.mp g1
  exact ⟨ha1, by omega⟩
theorem even_nn {a b w : Int32} (h : 0 ≤ w) : 0 ≤ fX12_even a b w := by
  simp only [fX12_even]
  split
  · exact h
  · exact meet_nn (by decide) h
theorem even_ok {a b w : Int32} (hw : 0 ≤ w) (h : ¬ 0 < fX12_even a b w) : ¬ 0 < w := by
  simp only [fX12_even] at h
  split at h
  · exact h
  · exact absurd (meet_pos (by decide) hw) h
theorem halves_i (x : Int32) : (fX12_halvesOf x).toInt = 1 ∨ (fX12_halvesOf x).toInt = 2 ∨ (fX12_halvesOf x).toInt = 3 := by
  simp only [fX12_halvesOf]
  (repeat' split) <;> decide
theorem two_halves {r x : Int32} (e : r = fX12_halvesOf x) : (2 * r).toInt = 2 ∨ (2 * r).toInt = 4 ∨ (2 * r).toInt = 6 := by
  rw [e]
  simp only [fX12_halvesOf]
  (repeat' split) <;> decide
theorem vin6 {r x k : Int32} (e : r = fX12_halvesOf x) (h0 : 0 ≤ k) (h : ¬ 2 * r ≤ k) : vp_in k 6 := by
  have h1 := le0 h0
  have h2 := lt_i h
  rw [vp_in_iff]
  rcases two_halves e with h3 | h3 | h3 <;> omega
theorem tk0 {a w u1 u2 z ky : Int32} {mk : Nat → Int32} (ha : in24 a) (hw : 0 ≤ w) (e1 : u1 = fX12_look a 2 z ky w mk) (e2 : u2 = fX12_even a 2 u1) (h : u2 ≤ 0) : vp_in a 8192 := by
  have h1 : 0 ≤ u1 := by rw [e1]; exact look_nn' hw
  have h2 : ¬ 0 < u1 := even_ok (b := 2) h1 (by rw [← e2]; exact nle_pos h)
  rw [e1] at h2
  obtain ⟨-, h3, h4⟩ := look_ok hw ha (by decide) (by decide) h2
  have k2 : (2 : Int32).toInt = 2 := by decide
  rw [vp_in_iff]
  omega
theorem tk1 {a w u1 u2 u3 z ky r x : Int32} {mk : Nat → Int32} (ha : in24 a) (hw : 0 ≤ w) (e1 : u1 = fX12_look a 2 z ky w mk) (e2 : u2 = fX12_even a 2 u1) (er : r = fX12_halvesOf x) (e3 : u3 = fX12_look a (2 * r) z ky u2 mk) (h : u3 = 0) : inM a (2 * r) := by
  have h1 : 0 ≤ u1 := by rw [e1]; exact look_nn' hw
  have h2 : 0 ≤ u2 := by rw [e2]; exact even_nn h1
  rw [e3] at h
  exact (look_ok h2 ha (by rcases two_halves er with h3 | h3 | h3 <;> omega) (by rcases two_halves er with h3 | h3 | h3 <;> omega) (by rw [h]; decide)).2
