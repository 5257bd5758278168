/-! the reference: places of memory, registers' numbers, bytes -/
abbrev inM (a n : Int32) : Prop := 0 ≤ a.toInt ∧ a.toInt + n.toInt ≤ 8192
abbrev in24 (a : Int32) : Prop := 0 ≤ a.toInt ∧ a.toInt < 16777216
def wdOk (f : Nat → Int32) : Prop := ∀ j : Nat, j < 6 → 0 ≤ (f j).toInt ∧ (f j).toInt < 256
theorem add_toInt {a b : Int32} (h1 : -2147483648 ≤ a.toInt + b.toInt) (h2 : a.toInt + b.toInt < 2147483648) : (a + b).toInt = a.toInt + b.toInt := by
  rw [Int32.toInt_add, Int.bmod_eq_of_le (by omega) (by omega)]
theorem sub_toInt {a b : Int32} (h1 : -2147483648 ≤ a.toInt - b.toInt) (h2 : a.toInt - b.toInt < 2147483648) : (a - b).toInt = a.toInt - b.toInt := by
  rw [Int32.toInt_sub, Int.bmod_eq_of_le (by omega) (by omega)]
theorem le0 {k : Int32} (h : 0 ≤ k) : 0 ≤ k.toInt := by
  have h1 : (0 : Int32).toInt ≤ k.toInt := Int32.le_iff_toInt_le.mp h
  have h5 : (0 : Int32).toInt = 0 := by decide
  omega
theorem lt_i {k n : Int32} (h : ¬ n ≤ k) : k.toInt < n.toInt := by rw [← Int32.lt_iff_toInt_lt]; exact Int32.not_le.mp h
theorem inM_at {a n k : Int32} (h : inM a n) (h0 : 0 ≤ k) (hk : ¬ n ≤ k) : vp_in (a + k) 8192 := by
  have h1 := le0 h0
  have h2 := lt_i hk
  obtain ⟨h3, h4⟩ := h
  rw [vp_in_iff, add_toInt (by omega) (by omega)]
  omega
theorem rg_in {x m B : Int32} {N : Nat} (hB : B.toInt + 1 = N) (e : m = if x < 0 then 1 else if x ≤ B then 0 else 1) (h : m ≤ 0) : vp_in x N := by
  have h1 : ¬ x < 0 := fun q => by rw [if_pos q] at e; subst e; exact absurd h (by decide)
  have h2 : x ≤ B := by
    refine Decidable.byContradiction fun q => ?_
    rw [if_neg h1, if_neg q] at e
    subst e
    exact absurd h (by decide)
  rw [vp_in_iff]
  have h3 := le0 (Int32.not_lt.mp h1)
  have h4 := Int32.le_iff_toInt_le.mp h2
  omega
theorem rg_in0 {x m B : Int32} {N : Nat} (hB : B.toInt + 1 = N) (e : m = if x < 0 then 1 else if x ≤ B then 0 else 1) (h : m = 0) : vp_in x N := rg_in hB e (by rw [h]; decide)
theorem key_in {x y m : Int32} (e : m = if x < 0 then 1 else if 3 < x then 1 else if y < 0 then 1 else if y ≤ 31 then 0 else 1) (h : m ≤ 0) : vp_in x 4 := by
  have h1 : ¬ x < 0 := fun q => by rw [if_pos q] at e; subst e; exact absurd h (by decide)
  have h2 : ¬ 3 < x := fun q => by rw [if_neg h1, if_pos q] at e; subst e; exact absurd h (by decide)
  rw [vp_in_iff]
  have h3 := le0 (Int32.not_lt.mp h1)
  have h4 := Int32.le_iff_toInt_le.mp (Int32.not_lt.mp h2)
  have h5 : (3 : Int32).toInt = 3 := by decide
  omega
theorem at11 {x y : Int32} (e : y = x &&& 16777215) (h : y < 8192) : vp_in (y >>> (11 &&& 31)) 4 := by
  obtain ⟨j, hj, e2⟩ := pk_andE x (m := 16777215) 24 (by decide)
  rw [e2] at e
  have hj' : j < 16777216 := hj
  have hlt : j < 8192 := by
    have h7 := Int32.lt_iff_toInt_lt.mp h
    rw [e, nI_toInt (by omega)] at h7
    have h6 : (8192 : Int32).toInt = 8192 := by decide
    omega
  rw [e, pk_shrN (by omega) (11 &&& 31) 11 (by decide)]
  exact vp_in_nI (by omega) (by decide)
theorem nib {x y : Int32} (e : y = x >>> (4 &&& 31)) (h : 0 ≤ x.toInt ∧ x.toInt < 256) : vp_in y 16 := by
  rw [vp_in_iff, e, pk_shr x (4 &&& 31) 4 (by decide), Int.shiftRight_eq_div_pow]
  have h9 : ((2 ^ 4 : Nat) : Int) = 16 := by decide
  rw [h9]
  omega
theorem in24_and (x : Int32) : in24 (x &&& 16777215) := by
  obtain ⟨j, hj, e2⟩ := pk_andE x (m := 16777215) 24 (by decide)
  have hj' : j < 16777216 := hj
  rw [e2]
  show 0 ≤ (nI j).toInt ∧ (nI j).toInt < 16777216
  rw [nI_toInt (by omega)]
  omega
