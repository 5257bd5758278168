/-! part p1: an instruction of zeros keeps the reference where it was, but for the eight bytes at 40 -/
def RI (ad ky wt wn : Int32) (mF : Nat → Int32) : Prop := ad = 0 ∧ ky = 0 ∧ wt = 0 ∧ wn = 0 ∧ mF (0 : Int32).toNatClampNeg = 0 ∧ mF (1 : Int32).toNatClampNeg = 0 ∧ ∀ j : Nat, 104 ≤ j → j < 112 → mF j = 0
theorem fetch0 (a n : Int32) (mF : Nat → Int32) (h : ∀ k : Int32, 0 ≤ k → ¬ n ≤ k → mF (a + k).toNatClampNeg = 0) : ∀ (n9 : Nat) (k : Int32), 0 ≤ k → (LX12_fetch_5 a n mF n9 (0, k)).1 = 0
  | 0, _, _ => rfl
  | n9 + 1, k, hk => by
    simp only [LX12_fetch_5]
    split
    · rfl
    · rename_i c
      have e : ((0 : Int64) <<< ((8 : Int32).toInt64 &&& 63)) ||| ((0 : Int32).toInt64) = 0 := by decide
      rw [h k hk c, e]
      exact fetch0 a n mF h n9 (k + 1) (nn_up hk c)
theorem fetch_0 {a n : Int32} {mF : Nat → Int32} (h : ∀ k : Int32, 0 ≤ k → ¬ n ≤ k → mF (a + k).toNatClampNeg = 0) : fX12_fetch a n mF = 0 := fetch0 a n mF h _ 0 (by decide)
theorem clamp_i {k : Int32} (h : 0 ≤ k.toInt) : (k.toNatClampNeg : Int) = k.toInt := by
  obtain ⟨j, hj, e⟩ := nI_of (x := k) (by
    rw [Int32.lt_iff_toInt_lt]
    have h5 : (0 : Int32).toInt = 0 := by decide
    omega)
  rw [e, nI_clamp hj, nI_toInt hj]
theorem at104 {mF : Nat → Int32} (h : ∀ j : Nat, 104 ≤ j → j < 112 → mF j = 0) (k : Int32) (h0 : 0 ≤ k) (h8 : ¬ 8 ≤ k) : mF ((104 : Int32) + k).toNatClampNeg = 0 := by
  have h1 := le0 h0
  have h2 := lt_i h8
  have k8 : (8 : Int32).toInt = 8 := by decide
  have k4 : (104 : Int32).toInt = 104 := by decide
  have e : ((104 : Int32) + k).toInt = 104 + k.toInt := by rw [add_toInt (by omega) (by omega), k4]
  have e2 := clamp_i (k := (104 : Int32) + k) (by omega)
  exact h _ (by omega) (by omega)
theorem store_p1 (v : Int64) (mF : Nat → Int32) (j : Nat) (h : j < 40 ∨ 48 ≤ j) : fX12_store 40 v 8 mF j = mF j := by
  have g : ∀ (n9 : Nat) (f : Nat → Int32) (k : Int32), 0 ≤ k → f j = mF j → (LX12_store_3 40 v 8 n9 (f, k)).1 j = mF j := by
    intro n9
    induction n9 with
    | zero => intro f k _ hf; exact hf
    | succ n9 ih =>
      intro f k hk hf
      simp only [LX12_store_3]
      split
      · exact hf
      · rename_i c
        refine ih _ _ (nn_up hk c) ?_
        have h1 := le0 hk
        have h2 := lt_i c
        have k8 : (8 : Int32).toInt = 8 := by decide
        have k4 : (40 : Int32).toInt = 40 := by decide
        have e : ((40 : Int32) + k).toInt = 40 + k.toInt := by rw [add_toInt (by omega) (by omega), k4]
        have e2 := clamp_i (k := (40 : Int32) + k) (by omega)
        rw [pk_un (by omega)]
        exact hf
  exact g _ mF 0 (by decide) rfl
theorem become_p1 (a b c d e f g h i : Int32) : fX12_become 0 a b c d e f g h i = (0, 0, 0, 0, 0, 0, 0, 0, 0) := by
  have h0 : fX12_become 0 0 0 0 0 0 0 0 0 0 = (0, 0, 0, 0, 0, 0, 0, 0, 0) := by
    simp only [fX12_become, Prod.mk.injEq]
    decide +kernel
  exact h0
theorem int_p1 {x2 x3 a b c d e f g h i : Int32} {mF : Nat → Int32} (hm : ∀ j : Nat, 104 ≤ j → j < 112 → mF j = 0) : ∃ v : Int64, fX12_interrupt 40 104 x2 x3 a b c d e f g h i mF = (0, 0, 0, 0, 0, 0, 0, 0, 0, fX12_store 40 v 8 mF) := by
  refine ⟨fX12_whole a b c d x2 x3 g h i, ?_⟩
  simp only [fX12_interrupt]
  rw [fetch_0 (fun k h1 h2 => at104 (fun j q1 q2 => (store_p1 _ mF j (Or.inr (by omega))).trans (hm j q1 q2)) k h1 h2), become_p1]
theorem p1_RI {mask ky wt pb cd ln cn ms ad wr af ca wn : Int32} {mF mk mr ct wd : Nat → Int32} (h : RI ad ky wt wn mF) : RI (fX12_instruction mask ky wt pb cd ln cn ms ad wr af ca mF mk mr ct wd).2.2.2.2.2.2.2.2.1 (fX12_instruction mask ky wt pb cd ln cn ms ad wr af ca mF mk mr ct wd).2.1 (fX12_instruction mask ky wt pb cd ln cn ms ad wr af ca mF mk mr ct wd).2.2.1 wn (fX12_instruction mask ky wt pb cd ln cn ms ad wr af ca mF mk mr ct wd).2.2.2.2.2.2.2.2.2.2.2.2.1 := by
  obtain ⟨h0, h1, h2, h3, h4, h5, h6⟩ := h
  simp only [fX12_instruction]
  generalize fX12_act _ _ _ = u1
  generalize fX12_halvesOf _ = u2
  generalize (ad + 2 * u2) &&& 16777215 = u3
  obtain ⟨v, e⟩ := int_p1 (x2 := u1) (x3 := u2) (a := mask) (b := ky) (c := wt) (d := pb) (e := cd) (f := u2) (g := cn) (h := ms) (i := u3) h6
  rw [e]
  refine ⟨rfl, rfl, rfl, h3, ?_, ?_, fun j q1 q2 => ?_⟩
  · exact (store_p1 v mF (0 : Int32).toNatClampNeg (by decide)).trans h4
  · exact (store_p1 v mF (1 : Int32).toNatClampNeg (by decide)).trans h5
  · exact (store_p1 v mF j (Or.inr (by omega))).trans (h6 j q1 q2)
theorem comes_p1 (mask : Int32) : fX12_comes mask 0 = 0 := by
  unfold fX12_comes
  rw [if_pos rfl]
theorem p1_g {ad ky wt wn mask r : Int32} {mF : Nat → Int32} (h : RI ad ky wt wn mF) (e : r = fX12_comes mask wn) : r = 0 := by
  rw [e, h.2.2.2.1, comes_p1]
theorem p1_RI2 {mask ky wt pb cd ln cn ms ad wr af ca wn : Int32} {mF mk mr ct wd : Nat → Int32} {u : Int32 × Int32 × Int32 × Int32 × Int32 × Int32 × Int32 × Int32 × Int32 × Int32 × Int32 × Int32 × (Nat → Int32) × (Nat → Int32) × (Nat → Int32)} (h : RI ad ky wt wn mF) (eu : u = fX12_instruction mask ky wt pb cd ln cn ms ad wr af ca mF mk mr ct wd) : RI u.2.2.2.2.2.2.2.2.1 u.2.1 u.2.2.1 wn u.2.2.2.2.2.2.2.2.2.2.2.2.1 := by
  rw [eu]
  exact p1_RI h
