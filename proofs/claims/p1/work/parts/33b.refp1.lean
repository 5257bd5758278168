/-! part p1: the reference's instruction where memory is 0 at 0 and 1, address and key are 0 -/
theorem ms20 : msU 2 0 = 2 := by rw [msU_eq]; decide
theorem ms80 : msU 8 0 = 8 := by rw [msU_eq]; decide
theorem lk1_p1 (z : Int32) (mk : Nat → Int32) (k : Int32) (h : (0 + k) &&& 16777215 < 8192) : lk1 0 z 0 mk (0, k) = 0 := by
  unfold lk1
  rw [if_pos h, if_pos (by rw [if_pos rfl])]
theorem look_p1 (z : Int32) (mk : Nat → Int32) : fX12_look 0 2 z 0 0 mk = 0 := by
  unfold fX12_look
  rw [ms20]
  show (LX12_look_3 0 2 z 0 mk (2 + 1) (0, 0)).1 = 0
  rw [lk_step, if_neg (by decide), lk1_p1 z mk 0 (by decide)]
  show (LX12_look_3 0 2 z 0 mk (1 + 1) (0, 0 + 1)).1 = 0
  rw [lk_step, if_neg (by decide), lk1_p1 z mk (0 + 1) (by decide)]
  show (LX12_look_3 0 2 z 0 mk (0 + 1) (0, 0 + 1 + 1)).1 = 0
  rw [lk_step, if_pos (by decide)]
theorem even_p1 : fX12_even 0 2 0 = 0 := by
  unfold fX12_even
  rw [if_pos (by decide)]
theorem p1_u {a k u1 u2 : Int32} {mk : Nat → Int32} (h0 : a = 0) (h1 : k = 0) (e1 : u1 = fX12_look a 2 0 k 0 mk) (e2 : u2 = fX12_even a 2 u1) : u2 = 0 := by
  rw [e2, e1, h0, h1, look_p1, even_p1]
theorem p1_a {a k u1 u2 : Int32} {mk : Nat → Int32} (h0 : a = 0) (h1 : k = 0) (e1 : u1 = fX12_look a 2 0 k 0 mk) (e2 : u2 = fX12_even a 2 u1) : u2 ≤ 0 := by
  rw [p1_u h0 h1 e1 e2]; decide
theorem p1_b {a k u1 u2 : Int32} {mk : Nat → Int32} (h0 : a = 0) (h1 : k = 0) (e1 : u1 = fX12_look a 2 0 k 0 mk) (e2 : u2 = fX12_even a 2 u1) : 0 ≤ u2 := by
  rw [p1_u h0 h1 e1 e2]; decide
theorem halves_p1 : fX12_halvesOf 0 = 1 := by
  unfold fX12_halvesOf
  rw [if_neg (by decide)]
theorem tk_step (x0 r u : Int32) (mF : Nat → Int32) (n9 : Nat) (w : (Nat → Int32) × Int32) : LX12_taken_64 x0 mF r u (n9 + 1) w = if (2 * r) ≤ w.2 then (w.1, w.2) else (if u = 0 then LX12_taken_64 x0 mF r u n9 (upd w.1 w.2.toNatClampNeg (mF (x0 + w.2).toNatClampNeg), w.2 + 1) else (w.1, w.2)) := rfl
theorem taken_p1 {mF wd mk : Nat → Int32} (h2 : mF (0 : Int32).toNatClampNeg = 0) (h3 : mF (1 : Int32).toNatClampNeg = 0) : ∃ wd' : Nat → Int32, fX12_taken 0 0 0 mF mk wd = (1, (0, wd')) ∧ wd' (0 : Int32).toNatClampNeg = 0 ∧ wd' (1 : Int32).toNatClampNeg = 0 := by
  have e21 : (2 : Int32) * 1 = 2 := by decide
  obtain ⟨G, hG⟩ : ∃ G : Nat → Int32, G = (LX12_taken_2 (msU 6 0 + 1) (wd, 0)).1 := ⟨_, rfl⟩
  have e : fX12_taken 0 0 0 mF mk wd = (1, (0, (LX12_taken_64 0 mF 1 0 (2 + 1) (G, 0)).1)) := by
    simp only [fX12_taken, ← hG]
    rw [look_p1, even_p1, if_pos (by decide), h2, halves_p1, e21, look_p1, if_pos rfl, ms20]
  have e2 : (LX12_taken_64 0 mF 1 0 (2 + 1) (G, 0)).1 = upd (upd G (0 : Int32).toNatClampNeg (mF ((0 : Int32) + 0).toNatClampNeg)) ((0 : Int32) + 1).toNatClampNeg (mF ((0 : Int32) + (0 + 1)).toNatClampNeg) := by
    rw [tk_step, if_neg (show ¬ (2 : Int32) * 1 ≤ 0 by decide), if_pos rfl]
    show (LX12_taken_64 0 mF 1 0 (1 + 1) (upd G (0 : Int32).toNatClampNeg (mF ((0 : Int32) + 0).toNatClampNeg), 0 + 1)).1 = _
    rw [tk_step, if_neg (show ¬ (2 : Int32) * 1 ≤ 0 + 1 by decide), if_pos rfl]
    show (LX12_taken_64 0 mF 1 0 (0 + 1) (upd (upd G (0 : Int32).toNatClampNeg (mF ((0 : Int32) + 0).toNatClampNeg)) ((0 : Int32) + 1).toNatClampNeg (mF ((0 : Int32) + (0 + 1)).toNatClampNeg), 0 + 1 + 1)).1 = _
    rw [tk_step, if_pos (show (2 : Int32) * 1 ≤ 0 + 1 + 1 by decide)]
  have z0 : ((0 : Int32) + 0) = 0 := by decide
  have z1 : ((0 : Int32) + (0 + 1)) = 1 := by decide
  have z2 : ((0 : Int32) + 1) = 1 := by decide
  rw [z0, z1, z2, h2, h3] at e2
  refine ⟨_, e, ?_, ?_⟩
  · rw [e2, pk_un (by decide), pk_us]
  · rw [e2, pk_us]
theorem p1_c {a k u1 u2 r : Int32} {mF wd mk : Nat → Int32} (h0 : a = 0) (h1 : k = 0) (h2 : mF (0 : Int32).toNatClampNeg = 0) (h3 : mF (1 : Int32).toNatClampNeg = 0) (e1 : u1 = fX12_look a 2 0 k 0 mk) (e2 : u2 = fX12_even a 2 u1) (er : r = (fX12_taken a k u2 mF mk wd).1) : ¬ r = 0 := by
  obtain ⟨wd', e, -, -⟩ := taken_p1 (wd := wd) (mk := mk) h2 h3
  rw [er, p1_u h0 h1 e1 e2, h0, h1, e]
  show ¬ (1 : Int32) = 0
  decide
theorem p1_k {a k u1 u2 : Int32} {u : Int32 × (Nat → Int32)} {mF wd mk : Nat → Int32} (h0 : a = 0) (h1 : k = 0) (h2 : mF (0 : Int32).toNatClampNeg = 0) (h3 : mF (1 : Int32).toNatClampNeg = 0) (e1 : u1 = fX12_look a 2 0 k 0 mk) (e2 : u2 = fX12_even a 2 u1) (eu : u = (fX12_taken a k u2 mF mk wd).2) : u.1 = 0 ∧ u.2 (0 : Int32).toNatClampNeg = 0 := by
  obtain ⟨wd', e, g, -⟩ := taken_p1 (wd := wd) (mk := mk) h2 h3
  rw [eu, p1_u h0 h1 e1 e2, h0, h1, e]
  exact ⟨rfl, g⟩
theorem p1_w {a k u1 u2 : Int32} {u : Int32 × (Nat → Int32)} {mF wd mk : Nat → Int32} (h0 : a = 0) (h1 : k = 0) (h2 : mF (0 : Int32).toNatClampNeg = 0) (h3 : mF (1 : Int32).toNatClampNeg = 0) (e1 : u1 = fX12_look a 2 0 k 0 mk) (e2 : u2 = fX12_even a 2 u1) (eu : u = (fX12_taken a k u2 mF mk wd).2) : u.2 (0 : Int32).toNatClampNeg = 0 := (p1_k h0 h1 h2 h3 e1 e2 eu).2
theorem p1_d {a k u1 u2 : Int32} {u : Int32 × (Nat → Int32)} {mF wd mk : Nat → Int32} (h0 : a = 0) (h1 : k = 0) (h2 : mF (0 : Int32).toNatClampNeg = 0) (h3 : mF (1 : Int32).toNatClampNeg = 0) (e1 : u1 = fX12_look a 2 0 k 0 mk) (e2 : u2 = fX12_even a 2 u1) (eu : u = (fX12_taken a k u2 mF mk wd).2) : ¬ u.2 (0 : Int32).toNatClampNeg = 68 := by
  rw [p1_w h0 h1 h2 h3 e1 e2 eu]; decide
theorem act_p1 (mr wd : Nat → Int32) : fX12_act 0 mr wd = 1 := by
  show fX12_meet 1 0 = 1
  simp only [fX12_meet, if_true]
theorem p1_v {a k u1 u2 v : Int32} {u : Int32 × (Nat → Int32)} {mF wd mk mr : Nat → Int32} (h0 : a = 0) (h1 : k = 0) (h2 : mF (0 : Int32).toNatClampNeg = 0) (h3 : mF (1 : Int32).toNatClampNeg = 0) (e1 : u1 = fX12_look a 2 0 k 0 mk) (e2 : u2 = fX12_even a 2 u1) (eu : u = (fX12_taken a k u2 mF mk wd).2) (ev : v = fX12_act u.1 mr u.2) : v = 1 := by
  rw [ev, (p1_k h0 h1 h2 h3 e1 e2 eu).1, act_p1]
theorem p1_e {a k u1 u2 v : Int32} {u : Int32 × (Nat → Int32)} {mF wd mk mr : Nat → Int32} (h0 : a = 0) (h1 : k = 0) (h2 : mF (0 : Int32).toNatClampNeg = 0) (h3 : mF (1 : Int32).toNatClampNeg = 0) (e1 : u1 = fX12_look a 2 0 k 0 mk) (e2 : u2 = fX12_even a 2 u1) (eu : u = (fX12_taken a k u2 mF mk wd).2) (ev : v = fX12_act u.1 mr u.2) : 0 < v := by
  rw [p1_v h0 h1 h2 h3 e1 e2 eu ev]; decide
theorem p1_f {a k u1 u2 v : Int32} {u : Int32 × (Nat → Int32)} {mF wd mk mr : Nat → Int32} (h0 : a = 0) (h1 : k = 0) (h2 : mF (0 : Int32).toNatClampNeg = 0) (h3 : mF (1 : Int32).toNatClampNeg = 0) (e1 : u1 = fX12_look a 2 0 k 0 mk) (e2 : u2 = fX12_even a 2 u1) (eu : u = (fX12_taken a k u2 mF mk wd).2) (ev : v = fX12_act u.1 mr u.2) : ¬ v ≤ 0 := by
  rw [p1_v h0 h1 h2 h3 e1 e2 eu ev]; decide
