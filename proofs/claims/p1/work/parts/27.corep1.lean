/-! part p1: the class's instruction where memory is 0 at 0 and 1, status and wanted are 0 -/
theorem get_p1 {x : Int32} {bF : Nat → Int32} (h : bF (x &&& 8191).toNatClampNeg = 0) : fX6_get x bF = 0 := by
  unfold fX6_get
  rw [h]
  decide
theorem halvesAt_p1 {x : Int32} {bF : Nat → Int32} (h : fX6_get x bF = 0) : fX4_halvesAt x bF = 1 := by
  unfold fX4_halvesAt
  rw [h]
  rfl
theorem demand_p1 (kF : Nat → Int32) (w : Int64) (hw : fX7_protectionKey w = 0) : fX5_demand 0 2 0 0 w kF = 0 := by
  unfold fX5_demand
  rw [hw]
  rfl
theorem first_p1 (kF : Nat → Int32) : fX4_demandFirstHalf 0 0 0 kF = 0 := by
  have e : fX7_protectionKey 0 = 0 := by unfold fX7_protectionKey; decide
  simp only [fX4_demandFirstHalf]
  rw [demand_p1 kF 0 e]
  unfold fX5_demandAligned
  rfl
noncomputable def wd_p1 : Int64 := fX7_setAddress (0 + 2 * 1) (fX7_setLength 1 0)
theorem wd_key : fX7_protectionKey wd_p1 = 0 := by
  unfold wd_p1 fX7_protectionKey fX7_setAddress fX7_setLength fX7_change
  decide +kernel
theorem take_p1 {op i r s a b : Int32} {bF kF rF : Nat → Int32} (h0 : fX6_get 0 bF = 0) (h1 : fX6_get (0 + 1) bF = 0) : fX4_take 0 0 op i r s a b 0 wd_p1 bF kF rF = (0, 0, 0, 0, 0, 0, 0) := by
  have e21 : (2 : Int32) * 1 = 2 := by decide
  simp only [fX4_take]
  rw [halvesAt_p1 h0, h0, h1, e21, demand_p1 kF wd_p1 wd_key, if_pos (by decide), if_pos (by decide), if_pos (by decide)]
  have z1 : (0 : Int32) ||| 0 = 0 := by decide
  have z2 : (0 : Int32) >>> (4 &&& 31) = 0 := by decide
  have z3 : (0 : Int32) &&& 15 = 0 := by decide
  rw [z1, z2, z3]
theorem takeI_p1 {op i r s a b : Int32} {bF kF rF : Nat → Int32} (h0 : fX6_get 0 bF = 0) (h1 : fX6_get (0 + 1) bF = 0) : fX11_takeInstruction op i r s a b 0 0 bF kF rF = (0, 0, 0, 0, 0, 0, 0, wd_p1) := by
  have e1 : fX7_address 0 = 0 := by unfold fX7_address; decide
  have e2 : fX7_setLength 0 0 = 0 := by unfold fX7_setLength fX7_change; decide +kernel
  have e3 : fX5_fine 0 = 1 := by unfold fX5_fine; rfl
  simp only [fX11_takeInstruction]
  rw [e1, e2, first_p1, e3, if_neg (by decide), halvesAt_p1 h0]
  have e4 : fX7_setAddress (0 + 2 * 1) (fX7_setLength 1 0) = wd_p1 := rfl
  rw [e4, take_p1 h0 h1]
theorem perfL_p1 {i r s a b1 : Int32} {w : Int64} {bF kF rF d1 it : Nat → Int32} : fX11_performLower 0 i r s a 0 w bF kF rF b1 d1 it = (1, w, bF, kF, rF, b1, d1, it) := by
  have e : fX5_fail 1 0 = 1 := by unfold fX5_fail; rfl
  simp only [fX11_performLower]
  repeat rw [if_neg (by decide)]
  rw [e]
theorem number0 (a n : Int32) (bF : Nat → Int32) (h : ∀ k : Int32, 0 ≤ k → ¬ n ≤ k → fX6_get (a + k) bF = 0) : ∀ (n9 : Nat) (k : Int32), 0 ≤ k → (LX6_number_5 a n bF n9 (0, k)).1 = 0
  | 0, _, _ => rfl
  | n9 + 1, k, hk => by
    simp only [LX6_number_5]
    split
    · rfl
    · rename_i c
      have e : ((0 : Int64) <<< ((8 : Int32).toInt64 &&& 63)) ||| ((0 : Int32).toInt64) = 0 := by decide
      rw [h k hk c, e]
      exact number0 a n bF h n9 (k + 1) (nn_up hk c)
theorem number_0 {a n : Int32} {bF : Nat → Int32} (h : ∀ k : Int32, 0 ≤ k → ¬ n ≤ k → fX6_get (a + k) bF = 0) : fX6_number a n bF = 0 := number0 a n bF h _ 0 (by decide)
theorem i_nn {k : Int32} (h : 0 ≤ k) : 0 ≤ k.toInt := by
  have h1 : (0 : Int32).toInt ≤ k.toInt := Int32.le_iff_toInt_le.mp h
  have h5 : (0 : Int32).toInt = 0 := by decide
  omega
theorem i_lt {k n : Int32} (h : ¬ n ≤ k) : k.toInt < n.toInt := by rw [← Int32.lt_iff_toInt_lt]; exact Int32.not_le.mp h
/-- a place below 8192, by its number -/
theorem place {a k : Int32} {x y : Nat} (ha : a.toInt = x) (hk : k.toInt = y) (h : x + y < 8192) : ((a + k) &&& 8191).toNatClampNeg = x + y := by
  have e : (a + k).toInt = ((x + y : Nat) : Int) := by
    rw [Int32.toInt_add, ha, hk, Int.bmod_eq_of_le (by omega) (by omega)]
    omega
  have e2 : a + k = nI (x + y) := Int32.toInt_inj.mp (by rw [e, nI_toInt (by omega)])
  rw [e2, pk_andN (by omega) (m := 8191) 13 (by decide), Nat.mod_eq_of_lt (by omega), nI_clamp (by omega)]
def CI (wn : Int32) (w : Int64) (bF : Nat → Int32) : Prop := wn = 0 ∧ w = 0 ∧ bF 0 = 0 ∧ bF 1 = 0 ∧ ∀ j : Nat, 104 ≤ j → j < 112 → bF j = 0
theorem setNumber_p1 (v : Int64) (bF : Nat → Int32) (j : Nat) (h : j < 40 ∨ 48 ≤ j) : fX6_setNumber 40 v 8 bF j = bF j := by
  have g : ∀ (n9 : Nat) (f : Nat → Int32) (k : Int32), 0 ≤ k → f j = bF j → (LX6_setNumber_3 40 v 8 n9 (f, k)).1 j = bF j := by
    intro n9
    induction n9 with
    | zero => intro f k _ hf; exact hf
    | succ n9 ih =>
      intro f k hk hf
      simp only [LX6_setNumber_3]
      split
      · exact hf
      · rename_i c
        refine ih _ _ (nn_up hk c) ?_
        have h1 := i_nn hk
        have h2 := i_lt c
        have k8 : (8 : Int32).toInt = 8 := by decide
        have e := place (a := 40) (k := k) (x := 40) (y := k.toInt.toNat) (by decide) (by omega) (by omega)
        simp only [fX6_set]
        rw [e, pk_un (by omega)]
        exact hf
  exact g _ bF 0 (by decide) rfl
theorem int_c1 {w : Int64} {bF it : Nat → Int32} (hm : ∀ j : Nat, 104 ≤ j → j < 112 → bF j = 0) : ∃ (v : Int64) (it' : Nat → Int32), fX11_interrupt 0 1 w bF it = (0, fX6_setNumber 40 v 8 bF, it') := by
  have e40 : oldT (0 : Int32).toNatClampNeg = 40 := by decide
  have e104 : newT (0 : Int32).toNatClampNeg = 104 := by decide
  refine ⟨fX7_setCode 1 w, upd it (0 : Int32).toNatClampNeg (it (0 : Int32).toNatClampNeg + 1), ?_⟩
  simp only [fX11_interrupt]
  rw [e40, e104]
  rw [number_0 (fun k h1 h2 => get_p1 (by
    have g1 := i_nn h1
    have g2 := i_lt h2
    have k8 : (8 : Int32).toInt = 8 := by decide
    rw [place (a := 104) (k := k) (x := 104) (y := k.toInt.toNat) (by decide) (by omega) (by omega), setNumber_p1 _ bF _ (Or.inr (by omega))]
    exact hm _ (by omega) (by omega)))]
  have e0 : fX7_become 0 (fX7_setCode 1 w) = 0 := by unfold fX7_become; decide
  rw [e0]
theorem goOn_p1 {wn fb sb fill on fnz nxt sec sab mark op i r s a b fault b1 b2 : Int32} {w : Int64} {bF kF rF d1 d2 src made it : Nat → Int32} (h : CI wn w bF) : ∃ (v : Int64) (it' : Nat → Int32), fX11_goOn wn fb sb fill on fnz nxt sec sab mark op i r s a b fault w bF kF rF b1 d1 b2 d2 src made it = (0, fb, sb, fill, on, fnz, nxt, sec, sab, mark, 0, 0, 0, 0, 0, 0, 1, 0, fX6_setNumber 40 v 8 bF, kF, rF, b1, d1, b2, d2, src, made, it') := by
  obtain ⟨h0, h1, h2, h3, h4⟩ := h
  subst h0
  subst h1
  have g0 : fX6_get 0 bF = 0 := get_p1 (x := 0) h2
  have g1 : fX6_get (0 + 1) bF = 0 := get_p1 (x := 0 + 1) h3
  have e1 : fX11_externalComes 0 0 = 0 := by unfold fX11_externalComes; rfl
  have e3 : fX5_fine 0 = 1 := by unfold fX5_fine; rfl
  have e4 : fX5_fine 1 = 0 := by unfold fX5_fine; rfl
  obtain ⟨v, it', e5⟩ := int_c1 (w := wd_p1) (it := it) h4
  refine ⟨v, it', ?_⟩
  have n1 : ¬ (1 : Int32) = 0 := by decide
  have n2 : ¬ (0 : Int32) = 68 := by decide
  have n3 : ¬ (128 : Int32) ≤ 0 := by decide
  simp only [fX11_goOn, e1, takeI_p1 g0 g1, e3, perfL_p1, e4, e5, if_neg n1, if_neg n2, if_neg n3, if_true]
theorem p1_CI {wn fb sb fill on fnz nxt sec sab mark op i r s a b fault b1 b2 : Int32} {w : Int64} {bF kF rF d1 d2 src made it : Nat → Int32} {u : Int32 × Int32 × Int32 × Int32 × Int32 × Int32 × Int32 × Int32 × Int32 × Int32 × Int32 × Int32 × Int32 × Int32 × Int32 × Int32 × Int32 × Int64 × (Nat → Int32) × (Nat → Int32) × (Nat → Int32) × Int32 × (Nat → Int32) × Int32 × (Nat → Int32) × (Nat → Int32) × (Nat → Int32) × (Nat → Int32)} (h : CI wn w bF ∧ (b1 = 0 ∨ b1 = 1) ∧ (b2 = 0 ∨ b2 = 1)) (eu : u = fX11_goOn wn fb sb fill on fnz nxt sec sab mark op i r s a b fault w bF kF rF b1 d1 b2 d2 src made it) : CI u.1 u.2.2.2.2.2.2.2.2.2.2.2.2.2.2.2.2.2.1 u.2.2.2.2.2.2.2.2.2.2.2.2.2.2.2.2.2.2.1 ∧ (u.2.2.2.2.2.2.2.2.2.2.2.2.2.2.2.2.2.2.2.2.2.1 = 0 ∨ u.2.2.2.2.2.2.2.2.2.2.2.2.2.2.2.2.2.2.2.2.2.1 = 1) ∧ (u.2.2.2.2.2.2.2.2.2.2.2.2.2.2.2.2.2.2.2.2.2.2.2.1 = 0 ∨ u.2.2.2.2.2.2.2.2.2.2.2.2.2.2.2.2.2.2.2.2.2.2.2.1 = 1) := by
  obtain ⟨hC, z1, z2⟩ := h
  obtain ⟨v, it', e⟩ := goOn_p1 (fb := fb) (sb := sb) (fill := fill) (on := on) (fnz := fnz) (nxt := nxt) (sec := sec) (sab := sab) (mark := mark) (op := op) (i := i) (r := r) (s := s) (a := a) (b := b) (fault := fault) (kF := kF) (rF := rF) (b1 := b1) (d1 := d1) (b2 := b2) (d2 := d2) (src := src) (made := made) (it := it) hC
  rw [eu, e]
  obtain ⟨h0, h1, h2, h3, h4⟩ := hC
  refine ⟨⟨rfl, rfl, ?_, ?_, fun j q1 q2 => ?_⟩, z1, z2⟩
  · show fX6_setNumber 40 v 8 bF 0 = 0
    rw [setNumber_p1 v bF 0 (by decide)]; exact h2
  · show fX6_setNumber 40 v 8 bF 1 = 0
    rw [setNumber_p1 v bF 1 (by decide)]; exact h3
  · show fX6_setNumber 40 v 8 bF j = 0
    rw [setNumber_p1 v bF j (Or.inr (by omega))]; exact h4 j q1 q2
theorem p1_wt {wn r : Int32} {w : Int64} {bF : Nat → Int32} {P : Prop} (h : CI wn w bF ∧ P) (e : r = fX11_waits wn w) : r = 0 := by
  obtain ⟨⟨h0, h1, -⟩, -⟩ := h
  rw [e, h0, h1]
  have e2 : fX7_has 14 0 = 0 := by unfold fX7_has; decide
  simp only [fX11_waits]
  rw [e2, if_pos rfl]
