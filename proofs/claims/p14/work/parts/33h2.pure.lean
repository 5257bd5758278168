/-! bytes and digits -/
abbrev byI (x : Int32) : Prop := 0 ≤ x.toInt ∧ x.toInt < 256
abbrev dgI (x : Int32) : Prop := 0 ≤ x.toInt ∧ x.toInt < 10
def mOk (f : Nat → Int32) : Prop := ∀ j : Nat, byI (f j)
def dOk (f : Nat → Int32) : Prop := ∀ j : Nat, j < 80 → dgI (f j)
theorem mOk_upd {f : Nat → Int32} {k : Nat} {x : Int32} (h : mOk f) (hx : byI x) : mOk (upd f k x) := fun j => by
  by_cases e : j = k
  · rw [e, pk_us]; exact hx
  · rw [pk_un e]; exact h j
theorem dOk_upd {f : Nat → Int32} {k : Nat} {x : Int32} (h : dOk f) (hx : dgI x) : dOk (upd f k x) := fun j hj => by
  by_cases e : j = k
  · rw [e, pk_us]; exact hx
  · rw [pk_un e]; exact h j hj
theorem operand_nn {a n ky w : Int32} {mF mk : Nat → Int32} (h : 0 ≤ w) : 0 ≤ (fX12_operand a n ky w mF mk).2 := by
  simp only [fX12_operand]
  (repeat' split) <;> exact even_nn (look_nn' h)
theorem clamp_i {k : Int32} (h : 0 ≤ k.toInt) : (k.toNatClampNeg : Int) = k.toInt := by
  rw [← Int32.toNat_toInt]
  omega
theorem i_ge0 (j : Nat) : ¬ (j : Int) < (0 : Int32).toInt := by
  have k0 : (0 : Int32).toInt = 0 := by decide
  omega
/-- a loop that fills a row from its first place on -/
theorem fill_gen {L : Nat → ((Nat → Int32) × Int32) → ((Nat → Int32) × Int32)} {B : Int32} {e : (Nat → Int32) × Int32 → Int32} (hL : ∀ n w, L (n + 1) w = if B ≤ w.2 then (w.1, w.2) else L n (upd w.1 w.2.toNatClampNeg (e w), w.2 + 1)) (P : Nat → Int32 → Prop) (hP : ∀ w : (Nat → Int32) × Int32, 0 ≤ w.2 → ¬ B ≤ w.2 → P w.2.toNatClampNeg (e w)) : ∀ (n : Nat) (w : (Nat → Int32) × Int32), msU B w.2 < n → 0 ≤ w.2 → (∀ j : Nat, (j : Int) < w.2.toInt → P j (w.1 j)) → ∀ j : Nat, (j : Int) < B.toInt → P j ((L n w).1 j)
  | 0, _, h, _, _ => absurd h (Nat.not_lt_zero _)
  | n + 1, w, hm, h0, hI => by
    rw [hL]
    by_cases c : B ≤ w.2
    · rw [if_pos c]
      intro j hj
      have := Int32.le_iff_toInt_le.mp c
      exact hI j (by omega)
    rw [if_neg c]
    have h1 := le0 h0
    have h2 := lt_i c
    have hB : B.toInt < 2 ^ 31 := Int32.toInt_lt B
    have k1 : (1 : Int32).toInt = 1 := by decide
    have ha : (w.2 + 1).toInt = w.2.toInt + 1 := by rw [add_toInt (by omega) (by omega), k1]
    refine fill_gen hL P hP n _ (Nat.lt_of_lt_of_le (ms_up c) (Nat.le_of_lt_succ hm)) (nn_up h0 c) ?_
    intro j hj
    have hj' : (j : Int) < w.2.toInt + 1 := by rw [← ha]; exact hj
    show P j (upd w.1 w.2.toNatClampNeg (e w) j)
    by_cases ej : j = w.2.toNatClampNeg
    · rw [ej, pk_us]; exact hP w h0 c
    · rw [pk_un ej]
      have := clamp_i h1
      exact hI j (by omega)
theorem fill_0 {L : Nat → ((Nat → Int32) × Int32) → ((Nat → Int32) × Int32)} {B : Int32} {e : (Nat → Int32) × Int32 → Int32} (hL : ∀ n w, L (n + 1) w = if B ≤ w.2 then (w.1, w.2) else L n (upd w.1 w.2.toNatClampNeg (e w), w.2 + 1)) (P : Nat → Int32 → Prop) (hP : ∀ w : (Nat → Int32) × Int32, 0 ≤ w.2 → ¬ B ≤ w.2 → P w.2.toNatClampNeg (e w)) (f : Nat → Int32) (j : Nat) (hj : (j : Int) < B.toInt) : P j ((L (msU B 0 + 1) (f, 0)).1 j) :=
  fill_gen hL P hP _ (f, 0) (Nat.lt_succ_self _) (show (0 : Int32) ≤ 0 by decide) (fun j h => absurd h (i_ge0 j)) j hj
/-! an instruction that was taken -/
theorem tk64 {a r u : Int32} {mF : Nat → Int32} (hM : mOk mF) : ∀ (n9 : Nat) (w : (Nat → Int32) × Int32), wdOk w.1 → wdOk (LX12_taken_64 a mF r u n9 w).1
  | 0, _, h => h
  | n9 + 1, w, h => by
    simp only [LX12_taken_64]
    split
    · exact h
    · split
      · refine tk64 hM n9 _ (fun j hj => ?_)
        show 0 ≤ (upd w.1 w.2.toNatClampNeg (mF (a + w.2).toNatClampNeg) j).toInt ∧ (upd w.1 w.2.toNatClampNeg (mF (a + w.2).toNatClampNeg) j).toInt < 256
        by_cases e : j = w.2.toNatClampNeg
        · rw [e, pk_us]; exact hM _
        · rw [pk_un e]; exact h j hj
      · exact h
theorem tk2 (f : Nat → Int32) : wdOk (LX12_taken_2 (msU 6 0 + 1) (f, 0)).1 := fun j hj => by
  have k6 : (6 : Int32).toInt = 6 := by decide
  have h := fill_0 (L := LX12_taken_2) (B := 6) (e := fun _ => 0) (fun _ _ => rfl) (fun _ x => x = 0) (fun _ _ _ => rfl) f j (by omega)
  rw [h]
  decide
theorem tk_wd {a ky w : Int32} {mF mk wd : Nat → Int32} {u : Int32 × (Nat → Int32)} (hM : mOk mF) (e : u = (fX12_taken a ky w mF mk wd).2) : wdOk u.2 := by
  rw [e]
  simp only [fX12_taken]
  split
  · split <;> exact tk64 hM _ _ (tk2 wd)
  · exact tk2 wd
theorem tk_nn {a ky w : Int32} {mF mk wd : Nat → Int32} {u : Int32 × (Nat → Int32)} (hw : 0 ≤ w) (e : u = (fX12_taken a ky w mF mk wd).2) : 0 ≤ u.1 := by
  rw [e]
  simp only [fX12_taken]
  split
  · split <;> exact look_nn' (even_nn (look_nn' hw))
  · exact even_nn (look_nn' hw)
