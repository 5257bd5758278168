/-! part p1: on fresh objects both sides answer alike -/
theorem vin5 {i : Int32} {L : Nat} (hL : L = 5) (h : 0 ≤ i.toInt ∧ i.toInt < 5) : vp_in i L := by
  rw [vp_in_iff, hL]
  exact h
theorem gd_W {c0 : Cond} {own : String} {idx : Nat} {y : MethodName} {bs : ByteArray} {n : Nat} {r : Option FieldType} {hh : List (Nat × Nat × Nat × Nat)} (h1 : Cond.methodLink own idx y ∈ WSA) (h2 : Cond.static y ∈ WSA) (h4 : Cond.initialized y.cls ∈ WSA) (h5 : Cond.codeWith y bs n r hh ∈ WSA) : GoodIn (c0 :: WSA) (va_wsS own idx y (Cond.codeWith y bs n r hh :: WSA)) := by
  intro w hw
  have h9 : w ∈ WSA := by
    simp only [va_wsS, List.cons_append, List.nil_append, List.mem_cons] at hw
    rcases hw with rfl | rfl | rfl | rfl | hw <;> assumption
  exact ⟨List.mem_cons_of_mem _ h9, WSA_good w h9⟩
theorem cmp_self {x y : Int64} (h : x = y) : lg_cmp x y = 0 := by
  subst h
  unfold lg_cmp
  rw [if_neg (by rw [gt_iff_lt, Int64.lt_iff_toInt_lt]; omega), if_pos rfl]
theorem thr_of {t r m : Int32} {P R : Prop} (hw : (t = 0 ∧ r = 0 ∧ P) ∨ (t = 1 ∧ r = 1 ∧ R)) (h : m = t) : m = r := by
  rcases hw with ⟨h1, h2, -⟩ | ⟨h1, h2, -⟩ <;> rw [h, h1, h2]
theorem out_of {t r : Int32} {u v : Nat → Int64} {val : Int64} {R : Prop} (hw : (t = 0 ∧ r = 0 ∧ u = vp_updL v (0 : Int32).toNatClampNeg val) ∨ (t = 1 ∧ r = 1 ∧ R)) (c : r = 0) : t = 0 ∧ u (0 : Int32).toNatClampNeg = val := by
  rcases hw with ⟨h1, -, h3⟩ | ⟨-, h2, -⟩
  · exact ⟨h1, by rw [h3, pk_uLs]⟩
  · rw [c] at h2; exact absurd h2 (by decide)
theorem out_of2 {t r : Int32} {u v : Nat → Int64} {val : Int64} {P R : Prop} (hw : (t = 0 ∧ r = 0 ∧ P ∧ u = vp_updL v (0 : Int32).toNatClampNeg val) ∨ (t = 1 ∧ r = 1 ∧ R)) (c : r = 0) : t = 0 ∧ u (0 : Int32).toNatClampNeg = val := by
  rcases hw with ⟨h1, -, -, h3⟩ | ⟨-, h2, -⟩
  · exact ⟨h1, by rw [h3, pk_uLs]⟩
  · rw [c] at h2; exact absurd h2 (by decide)
theorem thrown_e (x : Int32) : fX12_thrown x = x := rfl
/-! register -/
theorem reg_t (x a : Int32) (f g : Nat → Int32) : (fX12_register x a f).2 = tX11_register x g := by
  have e : ∀ m : Int32, (if m ≤ 0 then (f x.toNatClampNeg, m) else ((0 : Int32), m)).2 = m := fun m => by split <;> rfl
  simp only [fX12_register, tX11_register]
  exact e _
theorem reg_v (x a : Int32) : (fX12_register x a (fun _ => 0)).1 = 0 := by
  have e : ∀ m : Int32, (if m ≤ 0 then ((0 : Int32), m) else ((0 : Int32), m)).1 = 0 := fun m => by split <;> rfl
  simp only [fX12_register]
  exact e _
theorem reg_c (x : Int32) : fX11_register x (fun _ => 0) = 0 := by
  simp only [fX11_register, fX5_reg]
  (repeat' split) <;> rfl
theorem c0_a {x a r u rr : Int32} {f g : Nat → Int32} {P R : Prop} (hw : (tX11_register x g = 0 ∧ r = 0 ∧ P) ∨ (tX11_register x g = 1 ∧ r = 1 ∧ R)) (eu : u = (fX12_register x a f).2) (er : rr = fX12_thrown u) : rr = r :=
  thr_of hw (by rw [er, thrown_e, eu, reg_t])
theorem c0_b {x a r b : Int32} {u v : Nat → Int64} {R : Prop} (hw : (tX11_register x (fun _ => 0) = 0 ∧ r = 0 ∧ u = vp_updL v (0 : Int32).toNatClampNeg ((fX11_register x (fun _ => 0) : Int32).toInt64)) ∨ (tX11_register x (fun _ => 0) = 1 ∧ r = 1 ∧ R)) (c : r = 0) (er : b = (fX12_register x a (fun _ => 0)).1) : lg_cmp (u (0 : Int32).toNatClampNeg) ((b : Int32).toInt64) = 0 := by
  rw [(out_of hw c).2, er, reg_v, reg_c]
  exact cmp_self rfl
/-! put -/
theorem put_t (x y a : Int32) (f g : Nat → Int32) : (fX12_put x y a f).1 = tX11_put x y g := by
  have e : ∀ (m : Int32) (h : Nat → Int32), (if m = 0 then (m, h) else (m, f)).1 = m := fun m h => by split <;> rfl
  simp only [fX12_put, tX11_put]
  exact e _ _
theorem c1_a {x y a r rr : Int32} {u : Int32 × (Nat → Int32)} {f g : Nat → Int32} {P R : Prop} (hw : (tX11_put x y g = 0 ∧ r = 0 ∧ P) ∨ (tX11_put x y g = 1 ∧ r = 1 ∧ R)) (eu : u = fX12_put x y a f) (er : rr = fX12_thrown u.1) : rr = r :=
  thr_of hw (by rw [er, thrown_e, eu, put_t])
/-! status -/
theorem c2_a {r b : Int64} (er : r = fX11_status 0) (eb : b = (fX12_status 0 0 0 0 0 0 0 0 0 0).1) : lg_cmp r b = 0 := by
  refine cmp_self ?_
  rw [er, eb]
  unfold fX11_status fX12_status fX12_whole fX12_low
  decide +kernel
/-! write, read -/
theorem bytes_e (x n : Int32) : fX11_areBytes x n = if fX12_noBytes x n = 0 then 1 else 0 := by
  obtain ⟨r, hr⟩ : ∃ r : Int32, r = fX12_noBytes x n := ⟨_, rfl⟩
  rw [← hr]
  simp only [fX12_noBytes] at hr
  simp only [fX11_areBytes]
  by_cases h1 : n < 1
  · rw [if_pos h1] at hr ⊢; rw [hr, if_neg (by decide)]
  rw [if_neg h1] at hr ⊢
  by_cases h2 : 8 < n
  · rw [if_pos h2] at hr ⊢; rw [hr, if_neg (by decide)]
  rw [if_neg h2] at hr ⊢
  by_cases h3 : x < 0
  · rw [if_pos h3] at hr ⊢; rw [hr, if_neg (by decide)]
  rw [if_neg h3] at hr ⊢
  by_cases h4 : x ≤ 8192 - n
  · rw [if_pos h4] at hr; rw [if_neg (Int32.not_lt.mpr h4), hr, if_pos rfl]
  · rw [if_neg h4] at hr; rw [if_pos (Int32.not_le.mp h4), hr, if_neg (by decide)]
theorem write_t (x n a : Int32) (v : Int64) (f g : Nat → Int32) : (fX12_write x v n a f).1 = tX11_write x v n g := by
  have e : ∀ (m : Int32) (h : Nat → Int32), (if m = 0 then (m, h) else (m, f)).1 = m := fun m h => by split <;> rfl
  simp only [fX12_write, tX11_write]
  refine (e _ _).trans ?_
  rw [bytes_e]
  by_cases h : fX12_noBytes x n = 0
  · rw [if_pos h, if_pos h, if_neg (by decide)]
  · rw [if_neg h, if_neg h, if_pos rfl]
theorem c4_a {x n a r rr : Int32} {v : Int64} {u : Int32 × (Nat → Int32)} {f g : Nat → Int32} {P R : Prop} (hw : (tX11_write x v n g = 0 ∧ r = 0 ∧ P) ∨ (tX11_write x v n g = 1 ∧ r = 1 ∧ R)) (eu : u = fX12_write x v n a f) (er : rr = fX12_thrown u.1) : rr = r :=
  thr_of hw (by rw [er, thrown_e, eu, write_t])
theorem read_t (x n a : Int32) (f g : Nat → Int32) : (fX12_read x n a f).2 = tX11_read x n g := by
  have e : ∀ (m : Int32) (h : Int64), (if m ≤ 0 then (h, m) else (0, m)).2 = m := fun m h => by split <;> rfl
  simp only [fX12_read, tX11_read]
  refine (e _ _).trans ?_
  rw [bytes_e]
  by_cases h : fX12_noBytes x n = 0
  · rw [if_pos h, if_pos h, if_neg (by decide)]
  · rw [if_neg h, if_neg h, if_pos rfl]
theorem read_v (x n a : Int32) : (fX12_read x n a (fun _ => 0)).1 = 0 := by
  simp only [fX12_read, fetch_0 (a := x) (n := n) (mF := fun _ => 0) (fun _ _ _ => rfl)]
  split <;> rfl
theorem read_c (x n : Int32) : fX11_read x n (fun _ => 0) = 0 := by
  simp only [fX11_read, number_0 (a := x) (n := n) (bF := fun _ => 0) (fun _ _ _ => get_p1 rfl)]
  split <;> rfl
theorem c5_a {x n a r u rr : Int32} {f g : Nat → Int32} {P R : Prop} (hw : (tX11_read x n g = 0 ∧ r = 0 ∧ P) ∨ (tX11_read x n g = 1 ∧ r = 1 ∧ R)) (eu : u = (fX12_read x n a f).2) (er : rr = fX12_thrown u) : rr = r :=
  thr_of hw (by rw [er, thrown_e, eu, read_t])
theorem c5_b {x n a r : Int32} {b : Int64} {u v : Nat → Int64} {R : Prop} (hw : (tX11_read x n (fun _ => 0) = 0 ∧ r = 0 ∧ u = vp_updL v (0 : Int32).toNatClampNeg (fX11_read x n (fun _ => 0))) ∨ (tX11_read x n (fun _ => 0) = 1 ∧ r = 1 ∧ R)) (c : r = 0) (er : b = (fX12_read x n a (fun _ => 0)).1) : lg_cmp (u (0 : Int32).toNatClampNeg) b = 0 := by
  rw [(out_of hw c).2, er, read_v, read_c]
  exact cmp_self rfl
/-! key -/
theorem key_t (x y a : Int32) (f g : Nat → Int32) : (fX12_key x y a f).2.1 = tX11_key x y g := by
  have e : ∀ (m : Int32) (h : Int32) (k : Nat → Int32), (if m ≤ 0 then (h, m, k) else (0, m, f)).2.1 = m := fun m h k => by split <;> rfl
  simp only [fX12_key, tX11_key]
  exact e _ _ _
theorem key_v (x y a : Int32) : (fX12_key x y a (fun _ => 0)).1 = 0 := by
  have e : ∀ (m : Int32) (k l : Nat → Int32), (if m ≤ 0 then ((0 : Int32), m, k) else ((0 : Int32), m, l)).1 = 0 := fun m k l => by split <;> rfl
  simp only [fX12_key]
  exact e _ _ _
theorem key_c (x y : Int32) : (fX11_key x y (fun _ => 0)).1 = 0 := by
  simp only [fX11_key, fX6_blockKey]
  (repeat' split) <;> rfl
theorem c6_a {x y a r rr : Int32} {u : Int32 × (Nat → Int32)} {f g : Nat → Int32} {P R : Prop} (hw : (tX11_key x y g = 0 ∧ r = 0 ∧ P) ∨ (tX11_key x y g = 1 ∧ r = 1 ∧ R)) (eu : u = (fX12_key x y a f).2) (er : rr = fX12_thrown u.1) : rr = r :=
  thr_of hw (by rw [er, thrown_e, eu, key_t])
theorem c6_b {x y a r b : Int32} {u v : Nat → Int64} {P R : Prop} (hw : (tX11_key x y (fun _ => 0) = 0 ∧ r = 0 ∧ P ∧ u = vp_updL v (0 : Int32).toNatClampNeg (((fX11_key x y (fun _ => 0)).1 : Int32).toInt64)) ∨ (tX11_key x y (fun _ => 0) = 1 ∧ r = 1 ∧ R)) (c : r = 0) (er : b = (fX12_key x y a (fun _ => 0)).1) : lg_cmp (u (0 : Int32).toNatClampNeg) ((b : Int32).toInt64) = 0 := by
  rw [(out_of2 hw c).2, er, key_v, key_c]
  exact cmp_self rfl
/-! want -/
theorem want_t (x a b g : Int32) : (fX12_want x a b).1 = tX11_want x g := by
  have e : ∀ m h k : Int32, (if m = 0 then (m, h) else (m, k)).1 = m := fun m h k => by split <;> rfl
  simp only [fX12_want, tX11_want]
  exact e _ _ _
theorem c7_a {x a b g r rr : Int32} {u : Int32 × Int32} {P R : Prop} (hw : (tX11_want x g = 0 ∧ r = 0 ∧ P) ∨ (tX11_want x g = 1 ∧ r = 1 ∧ R)) (eu : u = fX12_want x a b) (er : rr = fX12_thrown u.1) : rr = r :=
  thr_of hw (by rw [er, thrown_e, eu, want_t])
/-! tick -/
theorem tick_t (x a b g : Int32) (f h : Nat → Int32) : (fX12_tick x a b f).2.1 = tX11_tick x g h := by
  simp only [fX12_tick, tX11_tick]
  by_cases h1 : x < 0
  · rw [if_pos h1, if_pos h1, if_neg (by decide)]
  rw [if_neg h1, if_neg h1]
  by_cases h2 : x ≤ 1000000
  · rw [if_pos h2, if_pos h2, if_pos (by decide)]
    (repeat' split) <;> rfl
  · rw [if_neg h2, if_neg h2, if_neg (by decide)]
theorem tick_r (x a b : Int32) (h : ¬ x < 0) (h2 : x ≤ 1000000) : (fX12_tick x a b (fun _ => 0)).1 = 0 - x := by
  have e0 : ((0 : Int64).toInt32) = 0 := by decide
  simp only [fX12_tick, fetch_0 (a := 80) (n := 4) (mF := fun _ => 0) (fun _ _ _ => rfl), e0]
  rw [if_neg h, if_pos h2, if_pos (by decide)]
  (repeat' split) <;> rfl
theorem tick_c (x g : Int32) (h : ¬ x < 0) (h2 : x ≤ 1000000) : (fX11_tick x g (fun _ => 0)).1 = 0 - x := by
  have e0 : ((0 : Int64).toInt32) = 0 := by decide
  simp only [fX11_tick, fX6_word, number_0 (a := 80) (n := 4) (bF := fun _ => 0) (fun _ _ _ => get_p1 rfl), e0]
  rw [if_neg h, if_pos h2]
  (repeat' split) <;> rfl
theorem tick_ok {x g : Int32} {f : Nat → Int32} (h : tX11_tick x g f = 0) : ¬ x < 0 ∧ x ≤ 1000000 := by
  simp only [tX11_tick] at h
  by_cases h1 : x < 0
  · rw [if_pos h1] at h; exact absurd h (by decide)
  rw [if_neg h1] at h
  by_cases h2 : x ≤ 1000000
  · exact ⟨h1, h2⟩
  · rw [if_neg h2] at h; exact absurd h (by decide)
theorem c8_a {x a b g r rr : Int32} {u : Int32 × Int32 × (Nat → Int32)} {f h : Nat → Int32} {P R : Prop} (hw : (tX11_tick x g h = 0 ∧ r = 0 ∧ P) ∨ (tX11_tick x g h = 1 ∧ r = 1 ∧ R)) (eu : u = (fX12_tick x a b f).2) (er : rr = fX12_thrown u.1) : rr = r :=
  thr_of hw (by rw [er, thrown_e, eu, tick_t])
theorem c8_b {x a b g r z : Int32} {u v : Nat → Int64} {P R : Prop} (hw : (tX11_tick x g (fun _ => 0) = 0 ∧ r = 0 ∧ P ∧ u = vp_updL v (0 : Int32).toNatClampNeg (((fX11_tick x g (fun _ => 0)).1 : Int32).toInt64)) ∨ (tX11_tick x g (fun _ => 0) = 1 ∧ r = 1 ∧ R)) (c : r = 0) (er : z = (fX12_tick x a b (fun _ => 0)).1) : lg_cmp (u (0 : Int32).toNatClampNeg) ((z : Int32).toInt64) = 0 := by
  obtain ⟨h1, h2⟩ := out_of2 hw c
  obtain ⟨h3, h4⟩ := tick_ok h1
  rw [h2, er, tick_r x a b h3 h4, tick_c x g h3 h4]
  exact cmp_self rfl
/-! waits, told, sum -/
theorem c10_a {r b : Int32} (er : r = fX11_waits 0 0) (eb : b = (fX12_waits 0 0 0 0).1) : r = b := by
  rw [er, eb]
  have e2 : fX7_has 14 0 = 0 := by unfold fX7_has; decide
  simp only [fX11_waits, fX12_waits, e2, if_true]
theorem told_t (x a : Int32) (f g : Nat → Int32) : (fX12_told x a f).2 = tX11_told x g := by
  have e : ∀ m : Int32, (if m ≤ 0 then (f x.toNatClampNeg, m) else ((0 : Int32), m)).2 = m := fun m => by split <;> rfl
  simp only [fX12_told, tX11_told]
  exact e _
theorem told_v (x a : Int32) : (fX12_told x a (fun _ => 0)).1 = 0 := by
  have e : ∀ m : Int32, (if m ≤ 0 then ((0 : Int32), m) else ((0 : Int32), m)).1 = 0 := fun m => by split <;> rfl
  simp only [fX12_told]
  exact e _
theorem told_c (x : Int32) : fX11_told x (fun _ => 0) = 0 := by
  simp only [fX11_told]
  (repeat' split) <;> rfl
theorem c11_a {x a r u rr : Int32} {f g : Nat → Int32} {P R : Prop} (hw : (tX11_told x g = 0 ∧ r = 0 ∧ P) ∨ (tX11_told x g = 1 ∧ r = 1 ∧ R)) (eu : u = (fX12_told x a f).2) (er : rr = fX12_thrown u) : rr = r :=
  thr_of hw (by rw [er, thrown_e, eu, told_t])
theorem c11_b {x a r b : Int32} {u v : Nat → Int64} {R : Prop} (hw : (tX11_told x (fun _ => 0) = 0 ∧ r = 0 ∧ u = vp_updL v (0 : Int32).toNatClampNeg ((fX11_told x (fun _ => 0) : Int32).toInt64)) ∨ (tX11_told x (fun _ => 0) = 1 ∧ r = 1 ∧ R)) (c : r = 0) (er : b = (fX12_told x a (fun _ => 0)).1) : lg_cmp (u (0 : Int32).toNatClampNeg) ((b : Int32).toInt64) = 0 := by
  rw [(out_of hw c).2, er, told_v, told_c]
  exact cmp_self rfl
theorem sum_c : ∀ (n9 : Nat) (k : Int32), (LX11_sum_4 (fun _ => 0) n9 (0, k)).1 = 0
  | 0, _ => rfl
  | n9 + 1, k => by
    have e : fX6_get k (fun _ => 0) = 0 := get_p1 rfl
    simp only [LX11_sum_4, e]
    split
    · rfl
    · rw [Int32.zero_mul, Int32.add_zero]
      exact sum_c n9 (k + 1)
theorem sum_r : ∀ (n9 : Nat) (k : Int32), (LX12_sum_9 (fun _ => 0) n9 (0, k)).1 = 0
  | 0, _ => rfl
  | n9 + 1, k => by
    simp only [LX12_sum_9]
    split
    · rfl
    · rw [Int32.zero_mul, Int32.add_zero]
      exact sum_r n9 (k + 1)
theorem c12_a {r b : Int32} (er : r = fX11_sum (fun _ => 0)) (eb : b = (fX12_sum 0 (fun _ => 0)).1) : r = b := by
  rw [er, eb]
  exact (sum_c _ 0).trans (sum_r _ 0).symm
/-! step -/
theorem CI_0 : CI 0 0 (fun _ => 0) := ⟨rfl, rfl, rfl, rfl, fun _ _ _ => rfl⟩
theorem RI_0 : RI 0 0 0 0 (fun _ => 0) := ⟨rfl, rfl, rfl, rfl, rfl, rfl, fun _ _ _ => rfl⟩
theorem le_anti {x y : Int32} (h1 : x ≤ y) (h2 : y ≤ x) : x = y := Int32.toInt_inj.mp (by
  have g1 := Int32.le_iff_toInt_le.mp h1
  have g2 := Int32.le_iff_toInt_le.mp h2
  omega)
theorem up_le {k x : Int32} (h : ¬ x ≤ k) : k + 1 ≤ x := by
  have h1 := lt_i h
  have h2 : x.toInt < 2 ^ 31 := Int32.toInt_lt x
  have h3 : -2 ^ 31 ≤ k.toInt := Int32.le_toInt k
  have h4 : (1 : Int32).toInt = 1 := by decide
  rw [Int32.le_iff_toInt_le, add_toInt (by omega) (by omega)]
  omega
theorem step_dc (x : Int32) : ∀ (n9 : Nat) (w : Int32 × Int32 × Int32 × Int32 × Int32 × Int32 × Int32 × Int32 × Int32 × Int32 × Int32 × Int32 × Int32 × Int32 × Int32 × Int32 × Int32 × Int64 × (Nat → Int32) × (Nat → Int32) × (Nat → Int32) × Int32 × (Nat → Int32) × Int32 × (Nat → Int32) × (Nat → Int32) × (Nat → Int32) × (Nat → Int32) × Int32), msU x w.2.2.2.2.2.2.2.2.2.2.2.2.2.2.2.2.2.2.2.2.2.2.2.2.2.2.2.2 < n9 → w.2.2.2.2.2.2.2.2.2.2.2.2.2.2.2.2.2.2.2.2.2.2.2.2.2.2.2.2 ≤ x → (LX11_step_21 x n9 w).2.2.2.2.2.2.2.2.2.2.2.2.2.2.2.2.2.2.2.2.2.2.2.2.2.2.2.2 = x
  | 0, _, hm, _ => absurd hm (Nat.not_lt_zero _)
  | n9 + 1, w, hm, hk => by
    simp only [LX11_step_21]
    by_cases c : x ≤ w.2.2.2.2.2.2.2.2.2.2.2.2.2.2.2.2.2.2.2.2.2.2.2.2.2.2.2.2
    · rw [if_pos c]
      exact le_anti hk c
    · rw [if_neg c]
      exact step_dc x n9 _ (Nat.lt_of_lt_of_le (ms_up c) (Nat.le_of_lt_succ hm)) (up_le c)
theorem step_dr (x wn : Int32) (mk mr : Nat → Int32) : ∀ (n9 : Nat) (w : Int32 × Int32 × Int32 × Int32 × Int32 × Int32 × Int32 × Int32 × Int32 × Int32 × Int32 × Int32 × (Nat → Int32) × (Nat → Int32) × (Nat → Int32) × Int32), msU x w.2.2.2.2.2.2.2.2.2.2.2.2.2.2.2 < n9 → w.2.2.2.2.2.2.2.2.2.2.2.2.2.2.2 ≤ x → (LX12_step_22 x wn mk mr 0 n9 w).1.2.2.2.2.2.2.2.2.2.2.2.2.2.2.2 = x
  | 0, _, hm, _ => absurd hm (Nat.not_lt_zero _)
  | n9 + 1, w, hm, hk => by
    simp only [LX12_step_22, if_true]
    by_cases c : x ≤ w.2.2.2.2.2.2.2.2.2.2.2.2.2.2.2
    · rw [if_pos c]
      exact le_anti hk c
    · rw [if_neg c]
      exact step_dr x wn mk mr n9 _ (Nat.lt_of_lt_of_le (ms_up c) (Nat.le_of_lt_succ hm)) (up_le c)
theorem step_t {x : Int32} {wn : Int32} {fb : Int32} {sb : Int32} {fill : Int32} {on : Int32} {fnz : Int32} {nxt : Int32} {sec : Int32} {sab : Int32} {mark : Int32} {op : Int32} {i : Int32} {rq : Int32} {s : Int32} {a : Int32} {b : Int32} {fault : Int32} {w : Int64} {bF : (Nat → Int32)} {kF : (Nat → Int32)} {rF : (Nat → Int32)} {b1 : Int32} {d1 : (Nat → Int32)} {b2 : Int32} {d2 : (Nat → Int32)} {src : (Nat → Int32)} {made : (Nat → Int32)} {it : (Nat → Int32)} {thr : Int32} {mask : Int32} {ky : Int32} {wt : Int32} {pb : Int32} {cd : Int32} {ln : Int32} {cn : Int32} {ms : Int32} {ad : Int32} {wn2 : Int32} {wr : Int32} {af : Int32} {ca : Int32} {mF : (Nat → Int32)} {mk : (Nat → Int32)} {mr : (Nat → Int32)} {ct : (Nat → Int32)} {wd : (Nat → Int32)} : (fX12_step x thr mask ky wt pb cd ln cn ms ad wn2 wr af ca mF mk mr ct wd).2.1 = tX11_step x wn fb sb fill on fnz nxt sec sab mark op i rq s a b fault w bF kF rF b1 d1 b2 d2 src made it := rfl
theorem step_ok {x : Int32} {wn : Int32} {fb : Int32} {sb : Int32} {fill : Int32} {on : Int32} {fnz : Int32} {nxt : Int32} {sec : Int32} {sab : Int32} {mark : Int32} {op : Int32} {i : Int32} {rq : Int32} {s : Int32} {a : Int32} {b : Int32} {fault : Int32} {w : Int64} {bF : (Nat → Int32)} {kF : (Nat → Int32)} {rF : (Nat → Int32)} {b1 : Int32} {d1 : (Nat → Int32)} {b2 : Int32} {d2 : (Nat → Int32)} {src : (Nat → Int32)} {made : (Nat → Int32)} {it : (Nat → Int32)} (h : tX11_step x wn fb sb fill on fnz nxt sec sab mark op i rq s a b fault w bF kF rF b1 d1 b2 d2 src made it = 0) : ¬ x < 0 ∧ x ≤ 3000 := by
  simp only [tX11_step] at h
  by_cases h1 : x < 0
  · rw [if_pos h1] at h; exact absurd h (by decide)
  rw [if_neg h1] at h
  by_cases h2 : x ≤ 3000
  · exact ⟨h1, h2⟩
  · rw [if_neg h2] at h; exact absurd h (by decide)
theorem step_c {x : Int32} {wn : Int32} {fb : Int32} {sb : Int32} {fill : Int32} {on : Int32} {fnz : Int32} {nxt : Int32} {sec : Int32} {sab : Int32} {mark : Int32} {op : Int32} {i : Int32} {rq : Int32} {s : Int32} {a : Int32} {b : Int32} {fault : Int32} {w : Int64} {bF : (Nat → Int32)} {kF : (Nat → Int32)} {rF : (Nat → Int32)} {b1 : Int32} {d1 : (Nat → Int32)} {b2 : Int32} {d2 : (Nat → Int32)} {src : (Nat → Int32)} {made : (Nat → Int32)} {it : (Nat → Int32)} (h1 : ¬ x < 0) (h2 : x ≤ 3000) : (fX11_step x wn fb sb fill on fnz nxt sec sab mark op i rq s a b fault w bF kF rF b1 d1 b2 d2 src made it).1 = x := by
  simp only [fX11_step]
  rw [if_neg h1, if_pos h2]
  exact step_dc x _ _ (Nat.lt_succ_self _) (Int32.not_lt.mp h1)
theorem step_r {x : Int32} {thr : Int32} {mask : Int32} {ky : Int32} {wt : Int32} {pb : Int32} {cd : Int32} {ln : Int32} {cn : Int32} {ms : Int32} {ad : Int32} {wn2 : Int32} {wr : Int32} {af : Int32} {ca : Int32} {mF : (Nat → Int32)} {mk : (Nat → Int32)} {mr : (Nat → Int32)} {ct : (Nat → Int32)} {wd : (Nat → Int32)} (h1 : ¬ x < 0) (h2 : x ≤ 3000) : (fX12_step x thr mask ky wt pb cd ln cn ms ad wn2 wr af ca mF mk mr ct wd).1 = x := by
  simp only [fX12_step]
  rw [if_neg h1, if_pos h2]
  exact step_dr x _ _ _ _ _ (Nat.lt_succ_self _) (Int32.not_lt.mp h1)
theorem c9_a {x r rr : Int32} {wn : Int32} {fb : Int32} {sb : Int32} {fill : Int32} {on : Int32} {fnz : Int32} {nxt : Int32} {sec : Int32} {sab : Int32} {mark : Int32} {op : Int32} {i : Int32} {rq : Int32} {s : Int32} {a : Int32} {b : Int32} {fault : Int32} {w : Int64} {bF : (Nat → Int32)} {kF : (Nat → Int32)} {rF : (Nat → Int32)} {b1 : Int32} {d1 : (Nat → Int32)} {b2 : Int32} {d2 : (Nat → Int32)} {src : (Nat → Int32)} {made : (Nat → Int32)} {it : (Nat → Int32)} {thr : Int32} {mask : Int32} {ky : Int32} {wt : Int32} {pb : Int32} {cd : Int32} {ln : Int32} {cn : Int32} {ms : Int32} {ad : Int32} {wn2 : Int32} {wr : Int32} {af : Int32} {ca : Int32} {mF : (Nat → Int32)} {mk : (Nat → Int32)} {mr : (Nat → Int32)} {ct : (Nat → Int32)} {wd : (Nat → Int32)} {u : Int32 × Int32 × Int32 × Int32 × Int32 × Int32 × Int32 × Int32 × Int32 × Int32 × Int32 × Int32 × Int32 × (Nat → Int32) × (Nat → Int32) × (Nat → Int32)} {P R : Prop} (hw : (tX11_step x wn fb sb fill on fnz nxt sec sab mark op i rq s a b fault w bF kF rF b1 d1 b2 d2 src made it = 0 ∧ r = 0 ∧ P) ∨ (tX11_step x wn fb sb fill on fnz nxt sec sab mark op i rq s a b fault w bF kF rF b1 d1 b2 d2 src made it = 1 ∧ r = 1 ∧ R)) (eu : u = (fX12_step x thr mask ky wt pb cd ln cn ms ad wn2 wr af ca mF mk mr ct wd).2) (er : rr = fX12_thrown u.1) : rr = r :=
  thr_of hw (by rw [er, thrown_e, eu]; exact step_t)
theorem c9_b {x r z : Int32} {wn : Int32} {fb : Int32} {sb : Int32} {fill : Int32} {on : Int32} {fnz : Int32} {nxt : Int32} {sec : Int32} {sab : Int32} {mark : Int32} {op : Int32} {i : Int32} {rq : Int32} {s : Int32} {a : Int32} {b : Int32} {fault : Int32} {w : Int64} {bF : (Nat → Int32)} {kF : (Nat → Int32)} {rF : (Nat → Int32)} {b1 : Int32} {d1 : (Nat → Int32)} {b2 : Int32} {d2 : (Nat → Int32)} {src : (Nat → Int32)} {made : (Nat → Int32)} {it : (Nat → Int32)} {thr : Int32} {mask : Int32} {ky : Int32} {wt : Int32} {pb : Int32} {cd : Int32} {ln : Int32} {cn : Int32} {ms : Int32} {ad : Int32} {wn2 : Int32} {wr : Int32} {af : Int32} {ca : Int32} {mF : (Nat → Int32)} {mk : (Nat → Int32)} {mr : (Nat → Int32)} {ct : (Nat → Int32)} {wd : (Nat → Int32)} {u v : Nat → Int64} {P R : Prop} (hw : (tX11_step x wn fb sb fill on fnz nxt sec sab mark op i rq s a b fault w bF kF rF b1 d1 b2 d2 src made it = 0 ∧ r = 0 ∧ P ∧ u = vp_updL v (0 : Int32).toNatClampNeg (((fX11_step x wn fb sb fill on fnz nxt sec sab mark op i rq s a b fault w bF kF rF b1 d1 b2 d2 src made it).1 : Int32).toInt64)) ∨ (tX11_step x wn fb sb fill on fnz nxt sec sab mark op i rq s a b fault w bF kF rF b1 d1 b2 d2 src made it = 1 ∧ r = 1 ∧ R)) (c : r = 0) (er : z = (fX12_step x thr mask ky wt pb cd ln cn ms ad wn2 wr af ca mF mk mr ct wd).1) : lg_cmp (u (0 : Int32).toNatClampNeg) ((z : Int32).toInt64) = 0 := by
  obtain ⟨h1, h2⟩ := out_of2 hw c
  obtain ⟨h3, h4⟩ := step_ok h1
  rw [h2, er, step_c h3 h4, step_r h3 h4]
  exact cmp_self rfl
