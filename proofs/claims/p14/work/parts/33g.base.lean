/-! the reference in general: registers' numbers, places, what keeps 'wrong' from being 0 -/
theorem mul_toInt {a b : Int32} (h1 : -2147483648 ≤ a.toInt * b.toInt) (h2 : a.toInt * b.toInt < 2147483648) : (a * b).toInt = a.toInt * b.toInt := by
  rw [Int32.toInt_mul, Int.bmod_eq_of_le (by omega) (by omega)]
theorem nlt0 {k : Int32} (h : 0 ≤ k.toInt) : ¬ k < 0 := fun c => by
  have h1 := Int32.lt_iff_toInt_lt.mp c
  have h5 : (0 : Int32).toInt = 0 := by decide
  omega
theorem twice_i {k : Int32} (h0 : 0 ≤ k.toInt) (h : k.toInt ≤ 1000) : (2 * k).toInt = 2 * k.toInt := by
  have k2 : (2 : Int32).toInt = 2 := by decide
  rw [mul_toInt (by rw [k2]; omega) (by rw [k2]; omega), k2]
theorem four_i {k : Int32} (h0 : 0 ≤ k.toInt) (h : k.toInt ≤ 1000) : (4 * k).toInt = 4 * k.toInt := by
  have k2 : (4 : Int32).toInt = 4 := by decide
  rw [mul_toInt (by rw [k2]; omega) (by rw [k2]; omega), k2]
theorem half_i {k : Int32} (h0 : 0 ≤ k.toInt) : (k / 2).toInt = k.toInt / 2 := by
  obtain ⟨j, hj, e⟩ := nI_of (x := k) (nlt0 h0)
  have e2 : nI j / 2 = nI (j / 2) := pk_div (d := 2) hj (by decide) (by decide)
  rw [e, e2, nI_toInt (by omega), nI_toInt hj]
  omega
theorem sub1_i {a : Int32} (h : 0 ≤ a.toInt) : (a - 1).toInt = a.toInt - 1 := by
  have k1 : (1 : Int32).toInt = 1 := by decide
  have h2 : a.toInt < 2 ^ 31 := Int32.toInt_lt a
  rw [sub_toInt (by omega) (by omega), k1]
theorem add1_i {a : Int32} (h : -1 ≤ a.toInt) (h2 : a.toInt ≤ 100000) : (a + 1).toInt = a.toInt + 1 := by
  have k1 : (1 : Int32).toInt = 1 := by decide
  rw [add_toInt (by omega) (by omega), k1]
theorem vin_w {x : Int32} (h : vp_in x 15) : vp_in x 16 := by
  rw [vp_in_iff] at *
  omega
theorem vin_s {x : Int32} (h : vp_in x 15) : vp_in (x + 1) 16 := by
  rw [vp_in_iff] at *
  have k1 : (1 : Int32).toInt = 1 := by decide
  rw [add_toInt (by omega) (by omega)]
  omega
theorem vin_e {x : Int32} (h : vp_in x 16) (ho : ¬ (x - x / 2 * 2) = 1) : vp_in x 15 := by
  obtain ⟨j, hj, e⟩ := vp_in_of h (by decide)
  rw [e] at ho ⊢
  have e2 : nI j - nI j / 2 * 2 = nI (j % 2) := pk_rem (d := 2) (by omega) (by decide) (by decide)
  rw [e2] at ho
  refine vp_in_nI ?_ (by decide)
  rcases Nat.mod_two_eq_zero_or_one j with h2 | h2
  · omega
  · rw [h2] at ho; exact absurd rfl ho
theorem vin_lt {k b : Int32} {B N : Nat} (hb : b.toInt = B) (hN : B ≤ N) (h0 : 0 ≤ k) (h : ¬ b ≤ k) : vp_in k N := by
  have h1 := le0 h0
  have h2 := lt_i h
  rw [vp_in_iff]
  omega
theorem vin_n {k n : Int32} {N : Nat} (hn : n.toInt ≤ N) (h0 : 0 ≤ k) (h : ¬ n ≤ k) : vp_in k N := by
  have h1 := le0 h0
  have h2 := lt_i h
  rw [vp_in_iff]
  omega
theorem odd_no {x m w : Int32} (hw : 0 ≤ w) (em : m = if (x - x / 2 * 2) = 1 then fX12_meet 6 w else w) (h : ¬ 0 < m) : ¬ (x - x / 2 * 2) = 1 := fun c => by
  rw [if_pos c] at em
  rw [em] at h
  exact h (meet_pos (by decide) hw)
theorem eq0_np {m : Int32} (h : m = 0) : ¬ 0 < m := by rw [h]; decide
theorem op_in {a n w u1 u2 z ky : Int32} {mk : Nat → Int32} (ha : in24 a) (hn : n = 1 ∨ n = 2 ∨ n = 4 ∨ n = 8) (hw : 0 ≤ w) (e1 : u1 = fX12_look a n z ky w mk) (e2 : u2 = fX12_even a n u1) (h : ¬ 0 < u2) : inM a n := by
  have h1 : 0 ≤ u1 := by rw [e1]; exact look_nn' hw
  have h2 : ¬ 0 < u1 := even_ok h1 (by rw [← e2]; exact h)
  rw [e1] at h2
  exact (look_ok hw ha (by rcases hn with h | h | h | h <;> rw [h] <;> decide) (by rcases hn with h | h | h | h <;> rw [h] <;> decide) h2).2
theorem n1_ne {n : Int32} (hn : n = 1 ∨ n = 2 ∨ n = 4 ∨ n = 8) : ¬ n = 0 := by rcases hn with h | h | h | h <;> rw [h] <;> decide
theorem kb_lt {at9 w0 m1 m2 r : Int32} (hw : 0 ≤ w0) (e1 : m1 = if at9 < 8192 then w0 else fX12_meet 5 w0) (e2 : m2 = if r = 0 then m1 else fX12_meet 6 m1) (h : m2 ≤ 0) : at9 < 8192 := by
  refine Decidable.byContradiction fun c => ?_
  rw [if_neg c] at e1
  have h1 : 0 < m1 := by rw [e1]; exact meet_pos (by decide) hw
  have h2 : 0 ≤ m1 := Int32.le_of_lt h1
  by_cases c2 : r = 0
  · rw [if_pos c2] at e2; rw [e2] at h; exact absurd h1 (nle_pos h)
  · rw [if_neg c2] at e2; rw [e2] at h; exact absurd (meet_pos (by decide) h2) (nle_pos h)
theorem sup_nn {pb w : Int32} (h : 0 ≤ w) : 0 ≤ fX12_supervisor pb w := by
  simp only [fX12_supervisor]
  split
  · exact h
  · exact meet_nn (by decide) h
/-- several bytes that were looked at -/
theorem lk_inM {a n w u z ky : Int32} {mk : Nat → Int32} (ha : in24 a) (hn : 1 ≤ n.toInt ∧ n.toInt ≤ 256) (hw : 0 ≤ w) (e : u = fX12_look a n z ky w mk) (h : u ≤ 0) : w = 0 ∧ inM a n := by
  rw [e] at h
  exact look_ok hw ha (by omega) (by omega) (nle_pos h)
theorem lk_in {a w u z ky : Int32} {mk : Nat → Int32} (ha : in24 a) (hw : 0 ≤ w) (e : u = fX12_look a 1 z ky w mk) (h : u ≤ 0) : vp_in a 8192 := by
  obtain ⟨h3, h4⟩ := (lk_inM ha ⟨by decide, by decide⟩ hw e h).2
  have k1 : (1 : Int32).toInt = 1 := by decide
  rw [vp_in_iff]
  omega
theorem lk2 {a b n m w u1 u2 z1 z2 ky : Int32} {mk : Nat → Int32} (ha : in24 a) (hb : in24 b) (hn : 1 ≤ n.toInt ∧ n.toInt ≤ 256) (hm : 1 ≤ m.toInt ∧ m.toInt ≤ 256) (hw : 0 ≤ w) (e1 : u1 = fX12_look a n z1 ky w mk) (e2 : u2 = fX12_look b m z2 ky u1 mk) (h : u2 ≤ 0) : inM a n ∧ inM b m := by
  have h1 : 0 ≤ u1 := by rw [e1]; exact look_nn' hw
  obtain ⟨h0, h2⟩ := lk_inM hb hm h1 e2 h
  exact ⟨(lk_inM ha hn hw e1 (by rw [h0]; decide)).2, h2⟩
/-- the last byte, and those before it -/
theorem lst_in {a n : Int32} (hn : 1 ≤ n.toInt) (h : inM a n) : vp_in ((a + n) - 1) 8192 := by
  obtain ⟨h3, h4⟩ := h
  have e : (a + n).toInt = a.toInt + n.toInt := add_toInt (by omega) (by omega)
  rw [vp_in_iff, sub1_i (by omega)]
  omega
theorem bk_in {a n k : Int32} (h : inM a n) (h0 : 0 ≤ k) (hk : ¬ n ≤ k) : vp_in (((a + n) - 1) - k) 8192 := by
  obtain ⟨h3, h4⟩ := h
  have h1 := le0 h0
  have h2 := lt_i hk
  have e : (a + n).toInt = a.toInt + n.toInt := add_toInt (by omega) (by omega)
  have e2 : ((a + n) - 1).toInt = a.toInt + n.toInt - 1 := by rw [sub1_i (by omega), e]
  rw [vp_in_iff, sub_toInt (by omega) (by omega)]
  omega
/-- the digits of a decimal -/
theorem td_in {a n k : Int32} (hn : 1 ≤ n.toInt ∧ n.toInt ≤ 16) (h : inM a n) (h0 : 0 ≤ k) (hk : ¬ ((2 * n) - 1) ≤ k) : vp_in (((a + n) - 1) - ((k + 1) / 2)) 8192 := by
  obtain ⟨h3, h4⟩ := h
  have h1 := le0 h0
  have h2 := lt_i hk
  have t := twice_i (k := n) (by omega) (by omega)
  rw [sub1_i (by omega), t] at h2
  have e : (a + n).toInt = a.toInt + n.toInt := add_toInt (by omega) (by omega)
  have e2 : ((a + n) - 1).toInt = a.toInt + n.toInt - 1 := by rw [sub1_i (by omega), e]
  have e3 : (k + 1).toInt = k.toInt + 1 := add1_i (by omega) (by omega)
  have e4 : ((k + 1) / 2).toInt = (k.toInt + 1) / 2 := by rw [half_i (by omega), e3]
  rw [vp_in_iff, sub_toInt (by omega) (by omega)]
  omega
theorem td_k {n k : Int32} (hn : 1 ≤ n.toInt ∧ n.toInt ≤ 16) (h0 : 0 ≤ k) (hk : ¬ ((2 * n) - 1) ≤ k) : vp_in k 80 := by
  have h1 := le0 h0
  have h2 := lt_i hk
  have t := twice_i (k := n) (by omega) (by omega)
  rw [sub1_i (by omega), t] at h2
  rw [vp_in_iff]
  omega
theorem pd_a {n k : Int32} (hn : 1 ≤ n.toInt ∧ n.toInt ≤ 16) (h0 : 0 ≤ k) (hk : ¬ n ≤ k) : vp_in (2 * k) 80 := by
  have h1 := le0 h0
  have h2 := lt_i hk
  rw [vp_in_iff, twice_i (by omega) (by omega)]
  omega
theorem pd_b {n k : Int32} (hn : 1 ≤ n.toInt ∧ n.toInt ≤ 16) (h0 : 0 ≤ k) (hk : ¬ n ≤ k) (h : ¬ k = 0) : vp_in ((2 * k) - 1) 80 := by
  have h1 := le0 h0
  have h2 := lt_i hk
  have h3 := ne0_i h
  have t := twice_i (k := k) (by omega) (by omega)
  rw [vp_in_iff, sub1_i (by omega), t]
  omega
theorem pr_in {k j : Int32} (h0 : 0 ≤ k) (hk : ¬ 32 ≤ k) (h0' : 0 ≤ j) (hj : ¬ 40 ≤ j) : vp_in (k + j) 80 := by
  have h1 := le0 h0
  have h2 := lt_i hk
  have h3 := le0 h0'
  have h4 := lt_i hj
  have k32 : (32 : Int32).toInt = 32 := by decide
  have k40 : (40 : Int32).toInt = 40 := by decide
  rw [vp_in_iff, add_toInt (by omega) (by omega)]
  omega
/-- a double register -/
theorem sh_e {x m1 m2 w : Int32} (hk : vp_in x 16) (hw : 0 ≤ w) (em : m2 = if m1 = 0 then w else if (x - x / 2 * 2) = 1 then fX12_meet 6 w else w) (h : m2 ≤ 0) (c : ¬ m1 = 0) : vp_in x 15 := by
  refine vin_e hk (fun c2 => ?_)
  rw [if_neg c, if_pos c2] at em
  rw [em] at h
  exact absurd (meet_pos (by decide) hw) (nle_pos h)
/-- many registers -/
theorem mn_in {a n x w u1 u2 z ky i : Int32} {mk : Nat → Int32} (ha : in24 a) (hw : 0 ≤ w) (en : n = (x &&& 15) + 1) (e1 : u1 = fX12_look a (4 * n) z ky w mk) (e2 : u2 = fX12_even a 4 u1) (h : u2 = 0) (h0 : 0 ≤ i) (hi : ¬ n ≤ i) : inM (a + (4 * i)) 4 := by
  have h1 : 0 ≤ u1 := by rw [e1]; exact look_nn' hw
  have h2 : ¬ 0 < u1 := even_ok (b := 4) h1 (by rw [← e2]; exact eq0_np h)
  rw [e1] at h2
  obtain ⟨j, hj, e⟩ := pk_andE x (m := 15) 4 (by decide)
  have hj' : j < 16 := hj
  have n1 : n.toInt = j + 1 := by rw [en, e, add1_i (by rw [nI_toInt (by omega)]; omega) (by rw [nI_toInt (by omega)]; omega), nI_toInt (by omega)]
  have n4 : (4 * n).toInt = 4 * n.toInt := four_i (by omega) (by omega)
  obtain ⟨h3, h4⟩ := (look_ok hw ha (by omega) (by omega) h2).2
  have h5 := le0 h0
  have h6 := lt_i hi
  have i4 : (4 * i).toInt = 4 * i.toInt := four_i (by omega) (by omega)
  have k4 : (4 : Int32).toInt = 4 := by decide
  show 0 ≤ (a + (4 * i)).toInt ∧ (a + (4 * i)).toInt + (4 : Int32).toInt ≤ 8192
  rw [add_toInt (by omega) (by omega)]
  omega
theorem in24_b {r x : Int32} (h : r = x &&& 16777215) : in24 r := by rw [h]; exact in24_and x
theorem based24 {r k : Int32} {mr wd : Nat → Int32} (h : r = fX12_based k mr wd) : in24 r := by
  simp only [fX12_based] at h
  split at h <;> exact in24_b h
theorem indexed24 {r : Int32} {mr wd : Nat → Int32} (h : r = fX12_indexed mr wd) : in24 r := by
  simp only [fX12_indexed] at h
  split at h <;> exact in24_b h
theorem wd1 {x : Int32} {f : Nat → Int32} (hW : wdOk f) (e : x = f (1 : Int32).toNatClampNeg) : 0 ≤ x.toInt ∧ x.toInt < 256 := by
  rw [e]; exact hW _ (by decide)
theorem hi4 {x : Int32} (h : 0 ≤ x.toInt ∧ x.toInt < 256) : 0 ≤ (x >>> (4 &&& 31)).toInt ∧ (x >>> (4 &&& 31)).toInt ≤ 15 := by
  have h1 := nib (x := x) rfl h
  rw [vp_in_iff] at h1
  omega
theorem lo4 (x : Int32) : 0 ≤ (x &&& 15).toInt ∧ (x &&& 15).toInt ≤ 15 := by
  obtain ⟨j, hj, e⟩ := pk_andE x (m := 15) 4 (by decide)
  have hj' : j < 16 := hj
  rw [e, nI_toInt (by omega)]
  omega
theorem p1_of {x : Int32} {N : Int} (hN : N ≤ 1000) (h : 0 ≤ x.toInt ∧ x.toInt ≤ N) : 1 ≤ (x + 1).toInt ∧ (x + 1).toInt ≤ N + 1 := by
  rw [add1_i (by omega) (by omega)]
  omega
/-- bytes of the digits, taken from the last on -/
theorem hf_in {k n : Int32} (hk : 0 ≤ k.toInt) (hn : n.toInt ≤ 16) (h : ¬ n ≤ k / 2) : vp_in ((n - 1) - (k / 2)) 512 := by
  have h2 := lt_i h
  have e := half_i hk
  rw [e] at h2
  have e1 : (n - 1).toInt = n.toInt - 1 := sub1_i (by omega)
  rw [vp_in_iff, sub_toInt (by omega) (by omega)]
  omega
theorem hv_2 {k n : Int32} (hn : n.toInt ≤ 16) (h0 : 0 ≤ k) (hk : ¬ n ≤ k) : 0 ≤ (2 * k).toInt := by
  have h1 := le0 h0
  have h2 := lt_i hk
  rw [twice_i (by omega) (by omega)]
  omega
theorem hv_2m {k n : Int32} (hn : n.toInt ≤ 16) (h0 : 0 ≤ k) (hk : ¬ n ≤ k) (h : ¬ k = 0) : 0 ≤ ((2 * k) - 1).toInt := by
  have h1 := le0 h0
  have h2 := lt_i hk
  have h3 := ne0_i h
  have t := twice_i (k := k) (by omega) (by omega)
  rw [sub1_i (by omega), t]
  omega
theorem hv_4 {k n : Int32} (hn : n.toInt ≤ 16) (h0 : 0 ≤ k) (hk : ¬ n ≤ k) : 0 ≤ (4 * k).toInt := by
  have h1 := le0 h0
  have h2 := lt_i hk
  rw [four_i (by omega) (by omega)]
  omega
theorem hv_4m {k n : Int32} (hn : n.toInt ≤ 16) (h0 : 0 ≤ k) (hk : ¬ n ≤ k) (h : ¬ k = 0) : 0 ≤ ((4 * k) - 2).toInt := by
  have h1 := le0 h0
  have h2 := lt_i hk
  have h3 := ne0_i h
  have t := four_i (k := k) (by omega) (by omega)
  have k2 : (2 : Int32).toInt = 2 := by decide
  rw [sub_toInt (by omega) (by omega)]
  omega
theorem hv_p {k n : Int32} (hn : n.toInt ≤ 16) (h0 : 0 ≤ k) (hk : ¬ n ≤ k) : 0 ≤ (k + 1).toInt := by
  have h1 := le0 h0
  have h2 := lt_i hk
  rw [add1_i (by omega) (by omega)]
  omega
/-- the bytes at b that those at a tell -/
theorem tr_a {a k n : Int32} (ha : in24 a) (hn : n.toInt ≤ 256) (h0 : 0 ≤ k) (hk : ¬ n ≤ k) (h : ¬ 8192 ≤ a + k) : vp_in (a + k) 8192 := by
  obtain ⟨h3, h4⟩ := ha
  have h1 := le0 h0
  have h2 := lt_i hk
  have h5 := lt_i h
  have k8 : (8192 : Int32).toInt = 8192 := by decide
  have e : (a + k).toInt = a.toInt + k.toInt := add_toInt (by omega) (by omega)
  rw [vp_in_iff]
  omega
/-- the pattern's own bytes -/
theorem ed_old {x a n : Int32} (h : inM a n) (hn : 1 ≤ n.toInt ∧ n.toInt ≤ 256) (h1 : ¬ x < a) (h2 : ¬ a + n ≤ x) : vp_in (x - a) 512 := by
  obtain ⟨h3, h4⟩ := h
  have g1 := Int32.le_iff_toInt_le.mp (Int32.not_lt.mp h1)
  have g2 := lt_i h2
  rw [add_toInt (by omega) (by omega)] at g2
  rw [vp_in_iff, sub_toInt (by omega) (by omega)]
  omega
theorem first_in {a n : Int32} (hn : 1 ≤ n.toInt) (h : inM a n) : vp_in a 8192 := by
  obtain ⟨h3, h4⟩ := h
  rw [vp_in_iff]
  omega
theorem dn_pos {k : Int32} (h : ¬ k ≤ 0) : 0 < k.toInt := by
  have h1 := Int32.lt_iff_toInt_lt.mp (Int32.not_le.mp h)
  have h5 : (0 : Int32).toInt = 0 := by decide
  omega
theorem dn1_i {k : Int32} (h : 0 < k.toInt) : (k + (-1)).toInt = k.toInt - 1 := by
  have h5 : (-1 : Int32).toInt = -1 := by decide
  have h2 : k.toInt < 2 ^ 31 := Int32.toInt_lt k
  rw [add_toInt (by omega) (by omega), h5]
  omega
theorem ms_dn1 {k : Int32} (h : ¬ k ≤ 0) : msD (k + (-1)) < msD k := by
  have h1 := dn_pos h
  rw [msD_eq, msD_eq, dn1_i h1]
  omega
theorem le_dn1 {k T : Int32} (h0 : k ≤ T) (h : ¬ k ≤ 0) : k + (-1) ≤ T := by
  have h1 := dn_pos h
  rw [Int32.le_iff_toInt_le, dn1_i h1]
  have := Int32.le_iff_toInt_le.mp h0
  omega
theorem vin_dn1 {k : Int32} (h0 : k ≤ 79) (h : ¬ k ≤ 0) : vp_in k 80 ∧ vp_in (k - 1) 80 := by
  have h1 := dn_pos h
  have h2 := Int32.le_iff_toInt_le.mp h0
  have k79 : (79 : Int32).toInt = 79 := by decide
  rw [vp_in_iff, vp_in_iff, sub1_i (by omega)]
  omega
theorem ms_le {k m : Int32} (hm : m.toInt ≤ 1000) (h0 : 0 ≤ k) (h : ¬ m < k) : msU (m + 1) (k + 1) < msU (m + 1) k := by
  have h1 := le0 h0
  have h2 := Int32.le_iff_toInt_le.mp (Int32.not_lt.mp h)
  refine ms_up (fun c => ?_)
  have h3 := Int32.le_iff_toInt_le.mp c
  rw [add1_i (by omega) (by omega)] at h3
  omega
theorem nn_le {k m : Int32} (hm : m.toInt ≤ 1000) (h0 : 0 ≤ k) (h : ¬ m < k) : 0 ≤ k + 1 := by
  have h1 := le0 h0
  have h2 := Int32.le_iff_toInt_le.mp (Int32.not_lt.mp h)
  rw [Int32.le_iff_toInt_le, add1_i (by omega) (by omega)]
  have h5 : (0 : Int32).toInt = 0 := by decide
  omega
theorem at_le {a k m l : Int32} (hA : inM a (l + 1)) (hl : 0 ≤ l.toInt ∧ l.toInt ≤ 15) (hml : m.toInt ≤ l.toInt) (h0 : 0 ≤ k) (h : ¬ m < k) : vp_in (a + k) 8192 := by
  obtain ⟨h3, h4⟩ := hA
  rw [add1_i (by omega) (by omega)] at h4
  have h1 := le0 h0
  have h2 := Int32.le_iff_toInt_le.mp (Int32.not_lt.mp h)
  rw [vp_in_iff, add_toInt (by omega) (by omega)]
  omega
