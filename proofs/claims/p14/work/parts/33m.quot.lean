noncomputable def LX12_quotientOfDecimals_20 : Nat → ((Nat → Int32) × (Nat → Int32) × Int32) → ((Nat → Int32) × (Nat → Int32) × Int32)
  | 0, w_20 => w_20
  | n9 + 1, w_20 =>
    if 80 ≤ w_20.2.2 then ((w_20.1, w_20.2.1, w_20.2.2)) else (let f_34 := upd w_20.1 (w_20.2.2 : Int32).toNatClampNeg (0); let f_42 := upd w_20.2.1 (w_20.2.2 : Int32).toNatClampNeg (0); let x_43 := w_20.2.2 + 1; LX12_quotientOfDecimals_20 n9 (f_34, f_42, x_43))
noncomputable def LX12_quotientOfDecimals_62 : Nat → ((Nat → Int32) × Int32) → ((Nat → Int32) × Int32)
  | 0, w_62 => w_62
  | n9 + 1, w_62 =>
    if w_62.2 ≤ 0 then ((w_62.1, w_62.2)) else (let f_82 := upd w_62.1 (w_62.2 : Int32).toNatClampNeg ((w_62.1 ((w_62.2 - 1) : Int32).toNatClampNeg)); let x_83 := w_62.2 + (-1); LX12_quotientOfDecimals_62 n9 (f_82, x_83))
noncomputable def LX12_quotientOfDecimals_132 (u_126 : (Nat → Int32)) : Nat → ((Nat → Int32) × Int32) → ((Nat → Int32) × Int32)
  | 0, w_132 => w_132
  | n9 + 1, w_132 =>
    if 80 ≤ w_132.2 then ((w_132.1, w_132.2)) else (let f_152 := upd w_132.1 (w_132.2 : Int32).toNatClampNeg ((u_126 (w_132.2 : Int32).toNatClampNeg)); let x_153 := w_132.2 + 1; LX12_quotientOfDecimals_132 u_126 n9 (f_152, x_153))
noncomputable def LX12_quotientOfDecimals_102 (v_twoF : (Nat → Int32)) (w_53 : ((Nat → Int32) × (Nat → Int32) × (Nat → Int32) × Int32)) : Nat → ((Nat → Int32) × (Nat → Int32) × (Nat → Int32) × Int32) → ((Nat → Int32) × (Nat → Int32) × (Nat → Int32) × Int32)
  | 0, w_102 => w_102
  | n9 + 1, w_102 =>
    let r_110 := fX12_order w_102.2.1 v_twoF
    if r_110 < 0 then ((w_102.1, w_102.2.1, w_102.2.2.1, w_102.2.2.2)) else (let u_126 := fX12_addDigits (-1) w_102.1 w_102.2.1 v_twoF; let g_132 := LX12_quotientOfDecimals_132 u_126 (msU 80 0 + 1) (w_102.2.1, 0); let f_169 := upd w_102.2.2.1 (w_53.2.2.2 : Int32).toNatClampNeg (((w_102.2.2.1 (w_53.2.2.2 : Int32).toNatClampNeg) + 1)); LX12_quotientOfDecimals_102 v_twoF w_53 n9 (u_126, g_132.1, f_169, g_132.2))
noncomputable def LX12_quotientOfDecimals_53 (v_oneF : (Nat → Int32)) (v_twoF : (Nat → Int32)) : Nat → ((Nat → Int32) × (Nat → Int32) × (Nat → Int32) × Int32) → ((Nat → Int32) × (Nat → Int32) × (Nat → Int32) × Int32)
  | 0, w_53 => w_53
  | n9 + 1, w_53 =>
    if w_53.2.2.2 < 0 then ((w_53.1, w_53.2.1, w_53.2.2.1, w_53.2.2.2)) else (let g_62 := LX12_quotientOfDecimals_62 (msD 79 + 1) (w_53.2.1, 79); let f_101 := upd g_62.1 (0 : Int32).toNatClampNeg ((v_oneF (w_53.2.2.2 : Int32).toNatClampNeg)); let g_102 := LX12_quotientOfDecimals_102 v_twoF w_53 (val f_101 + 1) (w_53.1, f_101, w_53.2.2.1, g_62.2); let x_173 := w_53.2.2.2 + (-1); LX12_quotientOfDecimals_53 v_oneF v_twoF n9 (g_102.1, g_102.2.1, g_102.2.2.1, x_173))
noncomputable def LX12_quotientOfDecimals_192 (g_53 : ((Nat → Int32) × (Nat → Int32) × (Nat → Int32) × Int32)) : Nat → (Int32 × Int32) → (Int32 × Int32)
  | 0, w_192 => w_192
  | n9 + 1, w_192 =>
    if 80 ≤ w_192.2 then ((w_192.1, w_192.2)) else (let m_215 : Int32 := (if (g_53.2.2.1 (w_192.2 : Int32).toNatClampNeg) = 0 then (w_192.1) else (let u_212 := fX12_meet 11 w_192.1; u_212)); let x_215 := w_192.2 + 1; LX12_quotientOfDecimals_192 g_53 n9 (m_215, x_215))
noncomputable def LX12_quotientOfDecimals_232 (g_53 : ((Nat → Int32) × (Nat → Int32) × (Nat → Int32) × Int32)) : Nat → ((Nat → Int32) × Int32) → ((Nat → Int32) × Int32)
  | 0, w_232 => w_232
  | n9 + 1, w_232 =>
    if 80 ≤ w_232.2 then ((w_232.1, w_232.2)) else (let f_252 := upd w_232.1 (w_232.2 : Int32).toNatClampNeg ((g_53.2.2.1 (w_232.2 : Int32).toNatClampNeg)); let x_253 := w_232.2 + 1; LX12_quotientOfDecimals_232 g_53 n9 (f_252, x_253))
noncomputable def LX12_quotientOfDecimals_289 (g_53 : ((Nat → Int32) × (Nat → Int32) × (Nat → Int32) × Int32)) : Nat → ((Nat → Int32) × Int32) → ((Nat → Int32) × Int32)
  | 0, w_289 => w_289
  | n9 + 1, w_289 =>
    if 80 ≤ w_289.2 then ((w_289.1, w_289.2)) else (let f_309 := upd w_289.1 (w_289.2 : Int32).toNatClampNeg ((g_53.2.1 (w_289.2 : Int32).toNatClampNeg)); let x_310 := w_289.2 + 1; LX12_quotientOfDecimals_289 g_53 n9 (f_309, x_310))
noncomputable def fX12_quotientOfDecimals (x0 : Int32) (x1 : Int32) (x2 : Int32) (v_wrong : Int32) (v_oneB : Int32) (v_twoB : Int32) (v_mF : (Nat → Int32)) (v_oneF : (Nat → Int32)) (v_twoF : (Nat → Int32)) (v_mmF : (Nat → Int32)) (v_resF : (Nat → Int32)) (v_oldF : (Nat → Int32)) : (Int32 × (Nat → Int32) × (Nat → Int32) × (Nat → Int32) × (Nat → Int32)) :=
  let r_4 := fX12_isZero v_twoF
  if r_4 = 0 then (let g_20 := LX12_quotientOfDecimals_20  (msU 80 0 + 1) (v_resF, v_oldF, 0); let g_53 := LX12_quotientOfDecimals_53 v_oneF v_twoF (msD 40 + 1) (v_mmF, g_20.1, g_20.2.1, 40); let x_186 := ((2 * (x1 - x2)) - 1); let g_192 := LX12_quotientOfDecimals_192 g_53 (msU 80 x_186 + 1) (v_wrong, x_186); if g_192.1 ≤ 0 then (let g_232 := LX12_quotientOfDecimals_232 g_53 (msU 80 0 + 1) (g_53.1, 0); let m_280 : Int32 := (if v_oneB = v_twoB then (0) else (1)); let p_281 := fX12_putDecimal x0 (x1 - x2) m_280 1 v_mF g_232.1; let r_281 := p_281.1; let u_281 := p_281.2; let g_289 := LX12_quotientOfDecimals_289 g_53 (msU 80 0 + 1) (g_232.1, 0); let p_330 := fX12_putDecimal ((x0 + x1) - x2) (x2 + 1) v_oneB 1 u_281 g_289.1; let r_330 := p_330.1; let u_330 := p_330.2; (g_192.1, u_330, g_289.1, g_53.2.1, g_53.2.2.1)) else ((g_192.1, v_mF, g_53.1, g_53.2.1, g_53.2.2.1))) else (let u_13 := fX12_meet 11 v_wrong; (u_13, v_mF, v_mmF, v_resF, v_oldF))
theorem qd_lm {l m : Int32} (hm : 0 ≤ m.toInt ∧ m.toInt < l.toInt ∧ l.toInt ≤ 15) : (l - m).toInt = l.toInt - m.toInt := sub_toInt (by omega) (by omega)
theorem qd_room {l m : Int32} (hm : 0 ≤ m.toInt ∧ m.toInt < l.toInt ∧ l.toInt ≤ 15) : 0 ≤ (2 * (l - m)) - 1 := by
  have e := qd_lm hm
  have e2 := twice_i (k := l - m) (by omega) (by omega)
  rw [Int32.le_iff_toInt_le, sub1_i (by omega), e2]
  have k0 : (0 : Int32).toInt = 0 := by decide
  omega
theorem qd_n1 {l m : Int32} (hm : 0 ≤ m.toInt ∧ m.toInt < l.toInt ∧ l.toInt ≤ 15) : 1 ≤ (l - m).toInt ∧ (l - m).toInt ≤ 16 := by
  have e := qd_lm hm
  omega
theorem qd_a1 {a l m : Int32} (hm : 0 ≤ m.toInt ∧ m.toInt < l.toInt ∧ l.toInt ≤ 15) (ha : inM a (l + 1)) : inM a (l - m) := by
  have e := qd_lm hm
  have e2 : (l + 1).toInt = l.toInt + 1 := add1_i (by omega) (by omega)
  obtain ⟨h3, h4⟩ := ha
  exact ⟨h3, by omega⟩
theorem qd_n2 {l m : Int32} (hm : 0 ≤ m.toInt ∧ m.toInt < l.toInt ∧ l.toInt ≤ 15) : 1 ≤ (m + 1).toInt ∧ (m + 1).toInt ≤ 16 := by
  have e2 : (m + 1).toInt = m.toInt + 1 := add1_i (by omega) (by omega)
  omega
theorem qd_a2 {a l m : Int32} (hm : 0 ≤ m.toInt ∧ m.toInt < l.toInt ∧ l.toInt ≤ 15) (ha : inM a (l + 1)) : inM ((a + l) - m) (m + 1) := by
  have e2 : (l + 1).toInt = l.toInt + 1 := add1_i (by omega) (by omega)
  have e3 : (m + 1).toInt = m.toInt + 1 := add1_i (by omega) (by omega)
  obtain ⟨h3, h4⟩ := ha
  have e4 : (a + l).toInt = a.toInt + l.toInt := add_toInt (by omega) (by omega)
  have e5 : ((a + l) - m).toInt = a.toInt + l.toInt - m.toInt := by rw [sub_toInt (by omega) (by omega), e4]
  exact ⟨by omega, by omega⟩
theorem i80 {i : Nat} (hi : i ≤ 80) : (80 ≤ nI i → i = 80) ∧ (¬ 80 ≤ nI i → i < 80) := by
  have k80 : (80 : Int32).toInt = 80 := by decide
  refine ⟨fun c => ?_, fun c => ?_⟩
  · have := Int32.le_iff_toInt_le.mp c
    rw [nI_toInt (by omega)] at this
    omega
  · have := lt_i c
    rw [nI_toInt (by omega)] at this
    omega
theorem fuel80 : 80 - 0 < msU 80 0 + 1 := by
  rw [msU_eq]
  have k79 : (80 : Int32).toInt = 80 := by decide
  have k0 : (0 : Int32).toInt = 0 := by decide
  omega
theorem z20_loop : ∀ (n9 i : Nat) (f1 f2 : Nat → Int32), i ≤ 80 → 80 - i < n9 → (∀ j, j < i → f1 j = 0 ∧ f2 j = 0) → ∀ j, j < 80 → (LX12_quotientOfDecimals_20 n9 (f1, f2, nI i)).1 j = 0 ∧ (LX12_quotientOfDecimals_20 n9 (f1, f2, nI i)).2.1 j = 0
  | 0, _, _, _, _, h, _ => absurd h (Nat.not_lt_zero _)
  | n9 + 1, i, f1, f2, hi, hm, hI => by
    simp only [LX12_quotientOfDecimals_20]
    by_cases c : 80 ≤ nI i
    · rw [if_pos c]
      have := (i80 hi).1 c
      subst this
      exact hI
    rw [if_neg c, nI_1, nI_clamp (by omega)]
    have hlt := (i80 hi).2 c
    refine z20_loop n9 (i + 1) _ _ (by omega) (by omega) (fun j hj => ?_)
    by_cases ej : j = i
    · rw [ej, pk_us, pk_us]; exact ⟨rfl, rfl⟩
    · rw [pk_un ej, pk_un ej]; exact hI j (by omega)
theorem z20 {f1 f2 : Nat → Int32} {g : (Nat → Int32) × (Nat → Int32) × Int32} (e : g = LX12_quotientOfDecimals_20 (msU 80 0 + 1) (f1, f2, 0)) : ∀ j, j < 80 → g.1 j = 0 ∧ g.2.1 j = 0 := by
  rw [e]
  exact z20_loop (msU 80 0 + 1) 0 f1 f2 (by omega) fuel80 (fun j hj => absurd hj (Nat.not_lt_zero _))
theorem qd_zero {f1 f2 : Nat → Int32} {g : (Nat → Int32) × (Nat → Int32) × Int32} (e : g = LX12_quotientOfDecimals_20 (msU 80 0 + 1) (f1, f2, 0)) : dOk g.1 := fun j hj => by
  rw [(z20 e j hj).1]
  decide
/-- one place up -/
theorem sh_loop {rest : Nat → Int32} : ∀ (n9 i : Nat) (f : Nat → Int32), i ≤ 79 → i < n9 → (∀ j, i ≤ j → j < 79 → f (j + 1) = rest j) → (∀ j, j ≤ i → f j = rest j) → ∀ j, j < 79 → (LX12_quotientOfDecimals_62 n9 (f, nI i)).1 (j + 1) = rest j
  | 0, _, _, _, h, _, _ => absurd h (Nat.not_lt_zero _)
  | n9 + 1, 0, f, _, _, hI, _ => by
    simp only [LX12_quotientOfDecimals_62]
    rw [if_pos (show nI 0 ≤ 0 by decide)]
    exact fun j hj => hI j (by omega) hj
  | n9 + 1, i + 1, f, hi, hm, hI, hJ => by
    simp only [LX12_quotientOfDecimals_62]
    rw [if_neg (nI_nle (by omega) (by omega)), pk_m1, nI_pred, nI_clamp (by omega), nI_clamp (by omega)]
    refine sh_loop n9 i _ (by omega) (by omega) (fun j h1 h2 => ?_) (fun j hj => ?_)
    · by_cases ej : j = i
      · rw [ej, pk_us]; exact hJ i (by omega)
      · rw [pk_un (by omega)]; exact hI j (by omega) h2
    · rw [pk_un (by omega)]; exact hJ j (by omega)
theorem sh_end {rest : Nat → Int32} {g : (Nat → Int32) × Int32} (e : g = LX12_quotientOfDecimals_62 (msD 79 + 1) (rest, 79)) : ∀ j, j < 79 → g.1 (j + 1) = rest j := by
  rw [e]
  have hm : 79 < msD 79 + 1 := by
    rw [msD_eq]
    have k79 : (79 : Int32).toInt = 79 := by decide
    omega
  exact sh_loop (msD 79 + 1) 79 rest (by omega) hm (fun j h1 h2 => absurd h1 (by omega)) (fun _ _ => rfl)
theorem qd_shift {one rest f : Nat → Int32} {k : Int32} {g : (Nat → Int32) × Int32} (h1 : dOk one) (hk : k ≤ 40) (c : ¬ k < 0) (hr : dOk rest) (eg : g = LX12_quotientOfDecimals_62 (msD 79 + 1) (rest, 79)) (ef : f = upd g.1 (0 : Int32).toNatClampNeg (one k.toNatClampNeg)) : dOk f := fun j hj => by
  have hk2 := Int32.le_iff_toInt_le.mp hk
  have k40 : (40 : Int32).toInt = 40 := by decide
  have hk3 := le0 (Int32.not_lt.mp c)
  have hk4 := clamp_i hk3
  rw [ef]
  cases j with
  | zero => rw [show (0 : Int32).toNatClampNeg = 0 by decide, pk_us]; exact h1 _ (by omega)
  | succ j => rw [pk_un (by rw [show (0 : Int32).toNatClampNeg = 0 by decide]; omega), sh_end eg j (by omega)]; exact hr j (by omega)
theorem qd_cp {u f : Nat → Int32} {g : (Nat → Int32) × Int32} (e : g = LX12_quotientOfDecimals_132 u (msU 80 0 + 1) (f, 0)) : ∀ j, j < 80 → g.1 j = u j := fun j hj => by
  rw [e]
  have k80 : (80 : Int32).toInt = 80 := by decide
  exact fill_0 (L := LX12_quotientOfDecimals_132 u) (B := 80) (e := fun w => u w.2.toNatClampNeg) (fun _ _ => rfl) (fun j x => x = u j) (fun _ _ _ => rfl) f j (by omega)
theorem val_congr {f g : Nat → Int32} (h : ∀ j, j < 80 → f j = g j) : val f = val g := by rw [val_eq, val_eq, vN_congr 80 h]
theorem qd_sub {two rest md u : Nat → Int32} {g : (Nat → Int32) × Int32} (h2 : dOk two) (hr : dOk rest) (eu : u = fX12_addDigits (-1) md rest two) (eg : g = LX12_quotientOfDecimals_132 u (msU 80 0 + 1) (rest, 0)) : dOk g.1 := fun j hj => by
  rw [qd_cp eg j hj, eu]
  exact ad_dig hr h2 (Or.inr rfl) j hj
theorem qd_val {two rest md u : Nat → Int32} {r : Int32} {g : (Nat → Int32) × Int32} (h2 : dOk two) (hr : dOk rest) (er : r = fX12_order rest two) (c : ¬ r < 0) (eu : u = fX12_addDigits (-1) md rest two) (eg : g = LX12_quotientOfDecimals_132 u (msU 80 0 + 1) (rest, 0)) : val two ≤ val rest ∧ val g.1 = val rest - val two := by
  have h := (or_val hr h2 er).2 c
  rw [val_congr (qd_cp eg), eu]
  exact ⟨h, ad_val hr h2 h⟩
theorem qd_less {two rest md u : Nat → Int32} {r r4 : Int32} {g : (Nat → Int32) × Int32} (h2 : dOk two) (hr : dOk rest) (e4 : r4 = fX12_isZero two) (c4 : r4 = 0) (er : r = fX12_order rest two) (c : ¬ r < 0) (eu : u = fX12_addDigits (-1) md rest two) (eg : g = LX12_quotientOfDecimals_132 u (msU 80 0 + 1) (rest, 0)) : val g.1 < val rest := by
  have h := qd_val h2 hr er c eu eg
  have h3 := iz_val h2 e4 c4
  omega
theorem q102_step (two : Nat → Int32) (w53 : (Nat → Int32) × (Nat → Int32) × (Nat → Int32) × Int32) (n9 : Nat) (w : (Nat → Int32) × (Nat → Int32) × (Nat → Int32) × Int32) (g : (Nat → Int32) × Int32) (e : g = LX12_quotientOfDecimals_132 (fX12_addDigits (-1) w.1 w.2.1 two) (msU 80 0 + 1) (w.2.1, 0)) : LX12_quotientOfDecimals_102 two w53 (n9 + 1) w = if fX12_order w.2.1 two < 0 then (w.1, w.2.1, w.2.2.1, w.2.2.2) else LX12_quotientOfDecimals_102 two w53 n9 (fX12_addDigits (-1) w.1 w.2.1 two, g.1, upd w.2.2.1 w53.2.2.2.toNatClampNeg (w.2.2.1 w53.2.2.2.toNatClampNeg + 1), g.2) := by
  rw [e]
  rfl
theorem qd_keep {two : Nat → Int32} (h2 : dOk two) {w53 : (Nat → Int32) × (Nat → Int32) × (Nat → Int32) × Int32} : ∀ (n9 : Nat) (w : (Nat → Int32) × (Nat → Int32) × (Nat → Int32) × Int32), dOk w.2.1 → dOk (LX12_quotientOfDecimals_102 two w53 n9 w).2.1
  | 0, _, h => h
  | n9 + 1, w, h => by
    obtain ⟨g, e⟩ : ∃ g, g = LX12_quotientOfDecimals_132 (fX12_addDigits (-1) w.1 w.2.1 two) (msU 80 0 + 1) (w.2.1, 0) := ⟨_, rfl⟩
    rw [q102_step two w53 n9 w g e]
    split
    · exact h
    · exact qd_keep h2 n9 (_, g.1, _, g.2) (qd_sub h2 h rfl e)

abbrev wX12_quotientOfDecimals (cI cB : ClassId) (a_mo a_mem a_mks a_mr a_cnt a_wd a_one a_two a_mmade a_mrest a_old : Nat) (v_thrown : Int32) (v_mask : Int32) (v_key : Int32) (v_wait : Int32) (v_problem : Int32) (v_code : Int32) (v_length : Int32) (v_cond : Int32) (v_masks : Int32) (v_addr : Int32) (v_mwanted : Int32) (v_wrong : Int32) (v_after : Int32) (v_calls : Int32) (v_oneB : Int32) (v_twoB : Int32) (v_mF : (Nat → Int32)) (v_oneF : (Nat → Int32)) (v_twoF : (Nat → Int32)) (v_mmF : (Nat → Int32)) (v_resF : (Nat → Int32)) (v_oldF : (Nat → Int32)) : va_W := [(a_mo, .inr (12, [.int v_thrown, .ref a_mem, .ref a_mks, .ref a_mr, .int v_mask, .int v_key, .int v_wait, .int v_problem, .int v_code, .int v_length, .int v_cond, .int v_masks, .int v_addr, .int v_mwanted, .ref a_cnt, .ref a_wd, .int v_wrong, .int v_after, .int v_calls, .ref a_one, .int v_oneB, .ref a_two, .int v_twoB, .ref a_mmade, .ref a_mrest, .ref a_old])), (a_mem, .inl (cI, 8192, .inl v_mF)), (a_one, .inl (cI, 80, .inl v_oneF)), (a_two, .inl (cI, 80, .inl v_twoF)), (a_mmade, .inl (cI, 80, .inl v_mmF)), (a_mrest, .inl (cI, 80, .inl v_resF)), (a_old, .inl (cI, 512, .inl v_oldF))]
abbrev rmX12_quotientOfDecimals : Room := { frames := 1, cells := 0, slots := 0, locals := 30 }
abbrev qX12_quotientOfDecimals (D : va_G) (cI cB : ClassId) (a_mo a_mem a_mks a_mr a_cnt a_wd a_one a_two a_mmade a_mrest a_old : Nat) (v_thrown : Int32) (v_mask : Int32) (v_key : Int32) (v_wait : Int32) (v_problem : Int32) (v_code : Int32) (v_length : Int32) (v_cond : Int32) (v_masks : Int32) (v_addr : Int32) (v_mwanted : Int32) (v_wrong : Int32) (v_after : Int32) (v_calls : Int32) (v_oneB : Int32) (v_twoB : Int32) (v_mF : (Nat → Int32)) (v_oneF : (Nat → Int32)) (v_twoF : (Nat → Int32)) (v_mmF : (Nat → Int32)) (v_resF : (Nat → Int32)) (v_oldF : (Nat → Int32)) (x0 : Int32) (x1 : Int32) (x2 : Int32) : (Nat → Prop) → Array Value → State → Outcome → State → Prop := fun A9 => va_Qv (fun (u9 : (Int32 × (Nat → Int32) × (Nat → Int32) × (Nat → Int32) × (Nat → Int32))) => u9 = fX12_quotientOfDecimals x0 x1 x2 v_wrong v_oneB v_twoB v_mF v_oneF v_twoF v_mmF v_resF v_oldF) (fun u9 t9 => atW D (TYS cI cB) A9 (wX12_quotientOfDecimals cI cB a_mo a_mem a_mks a_mr a_cnt a_wd a_one a_two a_mmade a_mrest a_old v_thrown v_mask v_key v_wait v_problem v_code v_length v_cond v_masks v_addr v_mwanted u9.1 v_after v_calls v_oneB v_twoB u9.2.1 v_oneF v_twoF u9.2.2.1 u9.2.2.2.1 u9.2.2.2.2) t9) A9
set_option maxHeartbeats 4000000 in
set_option maxRecDepth 100000 in
theorem kX12_quotientOfDecimals (l : Launch) (D : va_G) (cI cB : ClassId) (a_mo a_mem a_mks a_mr a_cnt a_wd a_one a_two a_mmade a_mrest a_old : Nat) (sz : Nat) (v_thrown : Int32) (v_mask : Int32) (v_key : Int32) (v_wait : Int32) (v_problem : Int32) (v_code : Int32) (v_length : Int32) (v_cond : Int32) (v_masks : Int32) (v_addr : Int32) (v_mwanted : Int32) (v_wrong : Int32) (v_after : Int32) (v_calls : Int32) (v_oneB : Int32) (v_twoB : Int32) (v_mF : (Nat → Int32)) (v_oneF : (Nat → Int32)) (v_twoF : (Nat → Int32)) (v_mmF : (Nat → Int32)) (v_resF : (Nat → Int32)) (v_oldF : (Nat → Int32)) (x0 : Int32) (x1 : Int32) (x2 : Int32) (hm : 0 ≤ x2.toInt ∧ x2.toInt < x1.toInt ∧ x1.toInt ≤ 15) (ha : inM x0 (x1 + 1)) (h1 : dOk v_oneF) (h2 : dOk v_twoF) : MetW l yX12_quotientOfDecimals (WK yX12_quotientOfDecimals cX12_quotientOfDecimals 7 none) rmX12_quotientOfDecimals D (TYS cI cB) (wX12_quotientOfDecimals cI cB a_mo a_mem a_mks a_mr a_cnt a_wd a_one a_two a_mmade a_mrest a_old v_thrown v_mask v_key v_wait v_problem v_code v_length v_cond v_masks v_addr v_mwanted v_wrong v_after v_calls v_oneB v_twoB v_mF v_oneF v_twoF v_mmF v_resF v_oldF) sz [.ref a_mo, .int x0, .int x1, .int x2] (qX12_quotientOfDecimals D cI cB a_mo a_mem a_mks a_mr a_cnt a_wd a_one a_two a_mmade a_mrest a_old v_thrown v_mask v_key v_wait v_problem v_code v_length v_cond v_masks v_addr v_mwanted v_wrong v_after v_calls v_oneB v_twoB v_mF v_oneF v_twoF v_mmF v_resF v_oldF x0 x1 x2) 0 0 := by
  refine met_std (by decide) rfl (Nat.le_of_ble_eq_true rfl) ?_
  intro p e s m below meth c A ls H hx hb hr hml hown hts hlocks hA hP hK hD hS hNW hl
  have hl : lv_has ls 7 [(0, .ref a_mo), (1, .int x0), (2, .int x1), (3, .int x2)] := hl
  have q_0 := hts _ (List.mem_cons_of_mem _ wd_783)
  have q_1 := hts _ (List.mem_cons_of_mem _ wd_785)
  have q_2 := hts _ (List.mem_cons_of_mem _ wd_786)
  have q_3 := hts _ (List.mem_cons_of_mem _ wd_782)
  have q_4 := hts _ (List.mem_cons_of_mem _ wd_784)
  have q_5 := hts _ (List.mem_cons_of_mem _ wd_836)
  have q_6 := hts _ (List.mem_cons_of_mem _ wd_888)
  have q_7 := hts _ (List.mem_cons_of_mem _ wd_889)
  refine lv_aload_n hx hb dX12_quotientOfDecimals_0 rfl (lv_at hl 0 rfl) ?_
  refine va_get (D := D) (ci := 12) (v := .ref a_two) (C := RX12) (T := TX12) (N := 26) hx hb hts in_X12 hown hK hP 0 rfl rfl 21 (by decide) q_0 (fun _ h9 => h9) rfl dX12_quotientOfDecimals_1 ?_
  have hPc : va_P D vwCl (wX12_isZero cI cB a_two v_twoF) H := hP.sub [3] rfl
  have hDc : va_D A (wX12_isZero cI cB a_two v_twoF) := hD.sub [3] (by decide) rfl
  have hFc := va_free (wc := (wX12_isZero cI cB a_two v_twoF)) hD hS hA [3] rfl
  refine va_calli (va_runS (As := [.ref a_two]) (rest := []) ⟨hx, hb, hml, hown, hts⟩ (kX12_isZero l D cI cB a_two H.size v_twoF ) (va_cwS 1 hts (gd_S wd_895 wd_896 wd_807 wd_891) rfl rfl rfl hdX12_isZero.2 ⟨Nat.le_of_ble_eq_true rfl, Nat.le_of_ble_eq_true rfl⟩) (preS_std hPc hK hDc hNW) rfl rfl hl.1 rfl (lv_room (Nat.le_of_ble_eq_true rfl)) dX12_quotientOfDecimals_4 ⟨Nat.zero_le _, Nat.zero_le _⟩) hS (fun q _ h => hFc q h) hFc (fun r_4 u_4 t9 H1 locs ht9 hvm9 hw9 hB9 hz9 hk9 hS => ?_)
  have er_4 : r_4 = fX12_isZero v_twoF := hw9
  have zr_4 : r_4 = 0 ∨ r_4 = 1 := by rw [er_4]; exact zX12_isZero _
  obtain ⟨hP, hD⟩ := back_std (w1 := (wX12_isZero cI cB a_two v_twoF)) (w2 := (wX12_quotientOfDecimals cI cB a_mo a_mem a_mks a_mr a_cnt a_wd a_one a_two a_mmade a_mrest a_old v_thrown v_mask v_key v_wait v_problem v_code v_length v_cond v_masks v_addr v_mwanted v_wrong v_after v_calls v_oneB v_twoB v_mF v_oneF v_twoF v_mmF v_resF v_oldF)) (wr := [(a_mo, .inr (12, [.int v_thrown, .ref a_mem, .ref a_mks, .ref a_mr, .int v_mask, .int v_key, .int v_wait, .int v_problem, .int v_code, .int v_length, .int v_cond, .int v_masks, .int v_addr, .int v_mwanted, .ref a_cnt, .ref a_wd, .int v_wrong, .int v_after, .int v_calls, .ref a_one, .int v_oneB, .ref a_two, .int v_twoB, .ref a_mmade, .ref a_mrest, .ref a_old])), (a_mem, .inl (cI, 8192, .inl v_mF)), (a_one, .inl (cI, 80, .inl v_oneF)), (a_mmade, .inl (cI, 80, .inl v_mmF)), (a_mrest, .inl (cI, 80, .inl v_resF)), (a_old, .inl (cI, 512, .inl v_oldF))]) hP hD [3] [0, 1, 2, 4, 5, 6] [0, 1, 2, 6, 3, 4, 5] rfl rfl (by decide) (by decide) hk9 hFc hB9 ht9 (by decide) rfl
  clear hB9 hk9 hz9 hvm9 ht9 hFc hPc hDc
  generalize H1 = H at hP hS ⊢
  refine lv_if_eq (tgt := 17) hx hb dX12_quotientOfDecimals_7 (by decide) (fun c_7 => ?_) (fun c_7 => ?_)
  · skip
    refine lv_iconst (v := 0) hx hb dX12_quotientOfDecimals_17 (by decide) ?_
    refine lv_istore (lv' := [(4, .int 0), (0, .ref a_mo), (1, .int x0), (2, .int x1), (3, .int x2)]) hx hb dX12_quotientOfDecimals_18 hl (by decide) rfl (fun ls hl => ?_)
    obtain ⟨g_20, eg_20⟩ : ∃ z : ((Nat → Int32) × (Nat → Int32) × Int32), z = LX12_quotientOfDecimals_20  (msU 80 0 + 1) (v_resF, v_oldF, 0) := ⟨_, rfl⟩
    have K_20_0 : ∀ (H : Heap) (locs : List Loc), va_P D vwCl (wX12_quotientOfDecimals cI cB a_mo a_mem a_mks a_mr a_cnt a_wd a_one a_two a_mmade a_mrest a_old v_thrown v_mask v_key v_wait v_problem v_code v_length v_cond v_masks v_addr v_mwanted v_wrong v_after v_calls v_oneB v_twoB v_mF v_oneF v_twoF v_mmF g_20.1 g_20.2.1) H → va_D A (wX12_quotientOfDecimals cI cB a_mo a_mem a_mks a_mr a_cnt a_wd a_one a_two a_mmade a_mrest a_old v_thrown v_mask v_key v_wait v_problem v_code v_length v_cond v_masks v_addr v_mwanted v_wrong v_after v_calls v_oneB v_twoB v_mF v_oneF v_twoF v_mmF g_20.1 g_20.2.1) → va_S A s.heap H locs → ∀ (ls : Array Slot), lv_has ls 7 [(0, .ref a_mo), (1, .int x0), (2, .int x1), (3, .int x2), (4, .int g_20.2.2)] → W p l e rmX12_quotientOfDecimals s m ([.ref a_mo, .int x0, .int x1, .int x2] : List Value).toArray below meth c H locs 0 0 (MQ below (qX12_quotientOfDecimals D cI cB a_mo a_mem a_mks a_mr a_cnt a_wd a_one a_two a_mmade a_mrest a_old v_thrown v_mask v_key v_wait v_problem v_code v_length v_cond v_masks v_addr v_mwanted v_wrong v_after v_calls v_oneB v_twoB v_mF v_oneF v_twoF v_mmF v_resF v_oldF x0 x1 x2 A) ([.ref a_mo, .int x0, .int x1, .int x2] : List Value).toArray s 0 0 A) (F0 m 49 ls []) := by
      intro H locs hP hD hS ls hl
      refine lv_bipush (v := 40) hx hb dX12_quotientOfDecimals_49 (by decide) ?_
      refine lv_istore (lv' := [(4, .int 40), (0, .ref a_mo), (1, .int x0), (2, .int x1), (3, .int x2)]) hx hb dX12_quotientOfDecimals_51 hl (by decide) rfl (fun ls hl => ?_)
      obtain ⟨g_53, eg_53⟩ : ∃ z : ((Nat → Int32) × (Nat → Int32) × (Nat → Int32) × Int32), z = LX12_quotientOfDecimals_53 v_oneF v_twoF (msD 40 + 1) (v_mmF, g_20.1, g_20.2.1, 40) := ⟨_, rfl⟩
      have K_53_0 : ∀ (H : Heap) (locs : List Loc), va_P D vwCl (wX12_quotientOfDecimals cI cB a_mo a_mem a_mks a_mr a_cnt a_wd a_one a_two a_mmade a_mrest a_old v_thrown v_mask v_key v_wait v_problem v_code v_length v_cond v_masks v_addr v_mwanted v_wrong v_after v_calls v_oneB v_twoB v_mF v_oneF v_twoF g_53.1 g_53.2.1 g_53.2.2.1) H → va_D A (wX12_quotientOfDecimals cI cB a_mo a_mem a_mks a_mr a_cnt a_wd a_one a_two a_mmade a_mrest a_old v_thrown v_mask v_key v_wait v_problem v_code v_length v_cond v_masks v_addr v_mwanted v_wrong v_after v_calls v_oneB v_twoB v_mF v_oneF v_twoF g_53.1 g_53.2.1 g_53.2.2.1) → va_S A s.heap H locs → ∀ (ls : Array Slot), lv_has ls 7 [(0, .ref a_mo), (1, .int x0), (2, .int x1), (3, .int x2), (4, .int g_53.2.2.2)] → W p l e rmX12_quotientOfDecimals s m ([.ref a_mo, .int x0, .int x1, .int x2] : List Value).toArray below meth c H locs 0 0 (MQ below (qX12_quotientOfDecimals D cI cB a_mo a_mem a_mks a_mr a_cnt a_wd a_one a_two a_mmade a_mrest a_old v_thrown v_mask v_key v_wait v_problem v_code v_length v_cond v_masks v_addr v_mwanted v_wrong v_after v_calls v_oneB v_twoB v_mF v_oneF v_twoF v_mmF v_resF v_oldF x0 x1 x2 A) ([.ref a_mo, .int x0, .int x1, .int x2] : List Value).toArray s 0 0 A) (F0 m 179 ls []) := by
        intro H locs hP hD hS ls hl
        refine lv_iconst (v := 2) hx hb dX12_quotientOfDecimals_179 (by decide) ?_
        refine lv_iload_n hx hb dX12_quotientOfDecimals_180 rfl (lv_at hl 2 rfl) ?_
        refine lv_iload_n hx hb dX12_quotientOfDecimals_181 rfl (lv_at hl 3 rfl) ?_
        refine lv_isub hx hb dX12_quotientOfDecimals_182 ?_
        refine lv_imul hx hb dX12_quotientOfDecimals_183 ?_
        refine lv_iconst (v := 1) hx hb dX12_quotientOfDecimals_184 (by decide) ?_
        refine lv_isub hx hb dX12_quotientOfDecimals_185 ?_
        refine lv_topi (fun x_186 ex_186 => ?_)
        refine lv_istore (lv' := [(4, .int x_186), (0, .ref a_mo), (1, .int x0), (2, .int x1), (3, .int x2)]) hx hb dX12_quotientOfDecimals_186 hl (by decide) rfl (fun ls hl => ?_)
        refine lv_iload hx hb dX12_quotientOfDecimals_188 (lv_at hl 0 rfl) ?_
        refine lv_istore (lv' := [(5, .int x_186), (4, .int x_186), (0, .ref a_mo), (1, .int x0), (2, .int x1), (3, .int x2)]) hx hb dX12_quotientOfDecimals_190 hl (by decide) rfl (fun ls hl => ?_)
        obtain ⟨g_192, eg_192⟩ : ∃ z : (Int32 × Int32), z = LX12_quotientOfDecimals_192 g_53 (msU 80 x_186 + 1) (v_wrong, x_186) := ⟨_, rfl⟩
        have K_192_0 : ∀ (H : Heap) (locs : List Loc), va_P D vwCl (wX12_quotientOfDecimals cI cB a_mo a_mem a_mks a_mr a_cnt a_wd a_one a_two a_mmade a_mrest a_old v_thrown v_mask v_key v_wait v_problem v_code v_length v_cond v_masks v_addr v_mwanted g_192.1 v_after v_calls v_oneB v_twoB v_mF v_oneF v_twoF g_53.1 g_53.2.1 g_53.2.2.1) H → va_D A (wX12_quotientOfDecimals cI cB a_mo a_mem a_mks a_mr a_cnt a_wd a_one a_two a_mmade a_mrest a_old v_thrown v_mask v_key v_wait v_problem v_code v_length v_cond v_masks v_addr v_mwanted g_192.1 v_after v_calls v_oneB v_twoB v_mF v_oneF v_twoF g_53.1 g_53.2.1 g_53.2.2.1) → va_S A s.heap H locs → ∀ (ls : Array Slot), lv_has ls 7 [(0, .ref a_mo), (1, .int x0), (2, .int x1), (3, .int x2), (4, .int x_186), (5, .int g_192.2)] → W p l e rmX12_quotientOfDecimals s m ([.ref a_mo, .int x0, .int x1, .int x2] : List Value).toArray below meth c H locs 0 0 (MQ below (qX12_quotientOfDecimals D cI cB a_mo a_mem a_mks a_mr a_cnt a_wd a_one a_two a_mmade a_mrest a_old v_thrown v_mask v_key v_wait v_problem v_code v_length v_cond v_masks v_addr v_mwanted v_wrong v_after v_calls v_oneB v_twoB v_mF v_oneF v_twoF v_mmF v_resF v_oldF x0 x1 x2 A) ([.ref a_mo, .int x0, .int x1, .int x2] : List Value).toArray s 0 0 A) (F0 m 221 ls []) := by
          intro H locs hP hD hS ls hl
          refine lv_aload_n hx hb dX12_quotientOfDecimals_221 rfl (lv_at hl 0 rfl) ?_
          refine va_get (D := D) (ci := 12) (v := .int g_192.1) (C := RX12) (T := TX12) (N := 26) hx hb hts in_X12 hown hK hP 0 rfl rfl 16 (by decide) q_5 (fun _ h9 => h9) rfl dX12_quotientOfDecimals_222 ?_
          refine lv_if_le (tgt := 229) hx hb dX12_quotientOfDecimals_225 (by decide) (fun c_225 => ?_) (fun c_225 => ?_)
          · skip
            refine lv_iconst (v := 0) hx hb dX12_quotientOfDecimals_229 (by decide) ?_
            refine lv_istore (lv' := [(5, .int 0), (0, .ref a_mo), (1, .int x0), (2, .int x1), (3, .int x2), (4, .int x_186)]) hx hb dX12_quotientOfDecimals_230 hl (by decide) rfl (fun ls hl => ?_)
            obtain ⟨g_232, eg_232⟩ : ∃ z : ((Nat → Int32) × Int32), z = LX12_quotientOfDecimals_232 g_53 (msU 80 0 + 1) (g_53.1, 0) := ⟨_, rfl⟩
            have K_232_0 : ∀ (H : Heap) (locs : List Loc), va_P D vwCl (wX12_quotientOfDecimals cI cB a_mo a_mem a_mks a_mr a_cnt a_wd a_one a_two a_mmade a_mrest a_old v_thrown v_mask v_key v_wait v_problem v_code v_length v_cond v_masks v_addr v_mwanted g_192.1 v_after v_calls v_oneB v_twoB v_mF v_oneF v_twoF g_232.1 g_53.2.1 g_53.2.2.1) H → va_D A (wX12_quotientOfDecimals cI cB a_mo a_mem a_mks a_mr a_cnt a_wd a_one a_two a_mmade a_mrest a_old v_thrown v_mask v_key v_wait v_problem v_code v_length v_cond v_masks v_addr v_mwanted g_192.1 v_after v_calls v_oneB v_twoB v_mF v_oneF v_twoF g_232.1 g_53.2.1 g_53.2.2.1) → va_S A s.heap H locs → ∀ (ls : Array Slot), lv_has ls 7 [(0, .ref a_mo), (1, .int x0), (2, .int x1), (3, .int x2), (4, .int x_186), (5, .int g_232.2)] → W p l e rmX12_quotientOfDecimals s m ([.ref a_mo, .int x0, .int x1, .int x2] : List Value).toArray below meth c H locs 0 0 (MQ below (qX12_quotientOfDecimals D cI cB a_mo a_mem a_mks a_mr a_cnt a_wd a_one a_two a_mmade a_mrest a_old v_thrown v_mask v_key v_wait v_problem v_code v_length v_cond v_masks v_addr v_mwanted v_wrong v_after v_calls v_oneB v_twoB v_mF v_oneF v_twoF v_mmF v_resF v_oldF x0 x1 x2 A) ([.ref a_mo, .int x0, .int x1, .int x2] : List Value).toArray s 0 0 A) (F0 m 259 ls []) := by
              intro H locs hP hD hS ls hl
              refine lv_aload_n hx hb dX12_quotientOfDecimals_259 rfl (lv_at hl 0 rfl) ?_
              refine lv_iload_n hx hb dX12_quotientOfDecimals_260 rfl (lv_at hl 1 rfl) ?_
              refine lv_iload_n hx hb dX12_quotientOfDecimals_261 rfl (lv_at hl 2 rfl) ?_
              refine lv_iload_n hx hb dX12_quotientOfDecimals_262 rfl (lv_at hl 3 rfl) ?_
              refine lv_isub hx hb dX12_quotientOfDecimals_263 ?_
              refine lv_aload_n hx hb dX12_quotientOfDecimals_264 rfl (lv_at hl 0 rfl) ?_
              refine va_get (D := D) (ci := 12) (v := .int v_oneB) (C := RX12) (T := TX12) (N := 26) hx hb hts in_X12 hown hK hP 0 rfl rfl 20 (by decide) q_6 (fun _ h9 => h9) rfl dX12_quotientOfDecimals_265 ?_
              refine lv_aload_n hx hb dX12_quotientOfDecimals_268 rfl (lv_at hl 0 rfl) ?_
              refine va_get (D := D) (ci := 12) (v := .int v_twoB) (C := RX12) (T := TX12) (N := 26) hx hb hts in_X12 hown hK hP 0 rfl rfl 22 (by decide) q_7 (fun _ h9 => h9) rfl dX12_quotientOfDecimals_269 ?_
              have J_280 : ∀ (m_280 : Int32), m_280 = (if v_oneB = v_twoB then (0) else (1)) → ∀ (H : Heap) (locs : List Loc), va_P D vwCl (wX12_quotientOfDecimals cI cB a_mo a_mem a_mks a_mr a_cnt a_wd a_one a_two a_mmade a_mrest a_old v_thrown v_mask v_key v_wait v_problem v_code v_length v_cond v_masks v_addr v_mwanted g_192.1 v_after v_calls v_oneB v_twoB v_mF v_oneF v_twoF g_232.1 g_53.2.1 g_53.2.2.1) H → va_D A (wX12_quotientOfDecimals cI cB a_mo a_mem a_mks a_mr a_cnt a_wd a_one a_two a_mmade a_mrest a_old v_thrown v_mask v_key v_wait v_problem v_code v_length v_cond v_masks v_addr v_mwanted g_192.1 v_after v_calls v_oneB v_twoB v_mF v_oneF v_twoF g_232.1 g_53.2.1 g_53.2.2.1) → va_S A s.heap H locs → ∀ (ls : Array Slot), lv_has ls 7 [(0, .ref a_mo), (1, .int x0), (2, .int x1), (3, .int x2), (4, .int x_186), (5, .int g_232.2)] → W p l e rmX12_quotientOfDecimals s m ([.ref a_mo, .int x0, .int x1, .int x2] : List Value).toArray below meth c H locs 0 0 (MQ below (qX12_quotientOfDecimals D cI cB a_mo a_mem a_mks a_mr a_cnt a_wd a_one a_two a_mmade a_mrest a_old v_thrown v_mask v_key v_wait v_problem v_code v_length v_cond v_masks v_addr v_mwanted v_wrong v_after v_calls v_oneB v_twoB v_mF v_oneF v_twoF v_mmF v_resF v_oldF x0 x1 x2 A) ([.ref a_mo, .int x0, .int x1, .int x2] : List Value).toArray s 0 0 A) (F0 m 280 ls [.int m_280, .int (x1 - x2), .int x0, .ref a_mo]) := by
                intro m_280 em_280 H locs hP hD hS ls hl
                try dsimp only at em_280
                have zm_280_0 : m_280 = 0 ∨ m_280 = 1 := by rw [em_280]; (try dsimp only); (repeat' split) <;> first | exact Or.inl rfl | exact Or.inr rfl
                refine lv_iconst (v := 1) hx hb dX12_quotientOfDecimals_280 (by decide) ?_
                have hPc : va_P D vwCl (wX12_putDecimal cI cB a_mo a_mem a_mks a_mr a_cnt a_wd a_one a_two a_mmade a_mrest a_old v_thrown v_mask v_key v_wait v_problem v_code v_length v_cond v_masks v_addr v_mwanted g_192.1 v_after v_calls v_oneB v_twoB v_mF g_232.1) H := hP.sub [0, 1, 4] rfl
                have hDc : va_D A (wX12_putDecimal cI cB a_mo a_mem a_mks a_mr a_cnt a_wd a_one a_two a_mmade a_mrest a_old v_thrown v_mask v_key v_wait v_problem v_code v_length v_cond v_masks v_addr v_mwanted g_192.1 v_after v_calls v_oneB v_twoB v_mF g_232.1) := hD.sub [0, 1, 4] (by decide) rfl
                have hFc := va_free (wc := (wX12_putDecimal cI cB a_mo a_mem a_mks a_mr a_cnt a_wd a_one a_two a_mmade a_mrest a_old v_thrown v_mask v_key v_wait v_problem v_code v_length v_cond v_masks v_addr v_mwanted g_192.1 v_after v_calls v_oneB v_twoB v_mF g_232.1)) hD hS hA [0, 1, 4] rfl
                refine va_calli (va_runV (As := [.int x0, .int (x1 - x2), .int m_280, .int 1]) (rest := []) ⟨hx, hb, hml, hown, hts⟩ (kX12_putDecimal l D cI cB a_mo a_mem a_mks a_mr a_cnt a_wd a_one a_two a_mmade a_mrest a_old H.size v_thrown v_mask v_key v_wait v_problem v_code v_length v_cond v_masks v_addr v_mwanted g_192.1 v_after v_calls v_oneB v_twoB v_mF g_232.1 x0 (x1 - x2) m_280 1 (qd_n1 hm) (qd_a1 hm ha)) (cwV 4 hts (gd_V wd_897 wd_898 wd_899 wd_807 wd_893) rfl rfl rfl hdX12_putDecimal ⟨Nat.le_of_ble_eq_true rfl, Nat.le_of_ble_eq_true rfl⟩) (preV_std (ci := 12) (q0 := 0) hPc hK hDc hNW rfl rfl) rfl rfl hl.1 rfl (lv_room (Nat.le_of_ble_eq_true rfl)) dX12_quotientOfDecimals_281 ⟨Nat.zero_le _, Nat.zero_le _⟩) hS (fun q _ h => hFc q h) hFc (fun r_281 u_281 t9 H1 locs ht9 hvm9 hw9 hB9 hz9 hk9 hS => ?_)
                obtain ⟨er_281, eu_281⟩ := hw9
                have zr_281 : r_281 = 0 ∨ r_281 = 1 := by rw [er_281]; exact zX12_putDecimal _ _ _ _ _ _
                obtain ⟨hP, hD⟩ := back_std (w1 := (wX12_putDecimal cI cB a_mo a_mem a_mks a_mr a_cnt a_wd a_one a_two a_mmade a_mrest a_old v_thrown v_mask v_key v_wait v_problem v_code v_length v_cond v_masks v_addr v_mwanted g_192.1 v_after v_calls v_oneB v_twoB u_281 g_232.1)) (w2 := (wX12_quotientOfDecimals cI cB a_mo a_mem a_mks a_mr a_cnt a_wd a_one a_two a_mmade a_mrest a_old v_thrown v_mask v_key v_wait v_problem v_code v_length v_cond v_masks v_addr v_mwanted g_192.1 v_after v_calls v_oneB v_twoB u_281 v_oneF v_twoF g_232.1 g_53.2.1 g_53.2.2.1)) (wr := [(a_one, .inl (cI, 80, .inl v_oneF)), (a_two, .inl (cI, 80, .inl v_twoF)), (a_mrest, .inl (cI, 80, .inl g_53.2.1)), (a_old, .inl (cI, 512, .inl g_53.2.2.1))]) hP hD [0, 1, 4] [2, 3, 5, 6] [4, 5, 0, 1, 6, 2, 3] rfl rfl (by decide) (by decide) hk9 hFc hB9 ht9 (by decide) rfl
                clear hB9 hk9 hz9 hvm9 ht9 hFc hPc hDc
                generalize H1 = H at hP hS ⊢
                refine lv_istore (lv' := [(5, .int r_281), (0, .ref a_mo), (1, .int x0), (2, .int x1), (3, .int x2), (4, .int x_186)]) hx hb dX12_quotientOfDecimals_284 hl (by decide) rfl (fun ls hl => ?_)
                refine lv_iconst (v := 0) hx hb dX12_quotientOfDecimals_286 (by decide) ?_
                refine lv_istore (lv' := [(6, .int 0), (5, .int r_281), (0, .ref a_mo), (1, .int x0), (2, .int x1), (3, .int x2), (4, .int x_186)]) hx hb dX12_quotientOfDecimals_287 hl (by decide) rfl (fun ls hl => ?_)
                obtain ⟨g_289, eg_289⟩ : ∃ z : ((Nat → Int32) × Int32), z = LX12_quotientOfDecimals_289 g_53 (msU 80 0 + 1) (g_232.1, 0) := ⟨_, rfl⟩
                have K_289_0 : ∀ (H : Heap) (locs : List Loc), va_P D vwCl (wX12_quotientOfDecimals cI cB a_mo a_mem a_mks a_mr a_cnt a_wd a_one a_two a_mmade a_mrest a_old v_thrown v_mask v_key v_wait v_problem v_code v_length v_cond v_masks v_addr v_mwanted g_192.1 v_after v_calls v_oneB v_twoB u_281 v_oneF v_twoF g_289.1 g_53.2.1 g_53.2.2.1) H → va_D A (wX12_quotientOfDecimals cI cB a_mo a_mem a_mks a_mr a_cnt a_wd a_one a_two a_mmade a_mrest a_old v_thrown v_mask v_key v_wait v_problem v_code v_length v_cond v_masks v_addr v_mwanted g_192.1 v_after v_calls v_oneB v_twoB u_281 v_oneF v_twoF g_289.1 g_53.2.1 g_53.2.2.1) → va_S A s.heap H locs → ∀ (ls : Array Slot), lv_has ls 7 [(0, .ref a_mo), (1, .int x0), (2, .int x1), (3, .int x2), (4, .int x_186), (5, .int r_281), (6, .int g_289.2)] → W p l e rmX12_quotientOfDecimals s m ([.ref a_mo, .int x0, .int x1, .int x2] : List Value).toArray below meth c H locs 0 0 (MQ below (qX12_quotientOfDecimals D cI cB a_mo a_mem a_mks a_mr a_cnt a_wd a_one a_two a_mmade a_mrest a_old v_thrown v_mask v_key v_wait v_problem v_code v_length v_cond v_masks v_addr v_mwanted v_wrong v_after v_calls v_oneB v_twoB v_mF v_oneF v_twoF v_mmF v_resF v_oldF x0 x1 x2 A) ([.ref a_mo, .int x0, .int x1, .int x2] : List Value).toArray s 0 0 A) (F0 m 316 ls []) := by
                  intro H locs hP hD hS ls hl
                  refine lv_aload_n hx hb dX12_quotientOfDecimals_316 rfl (lv_at hl 0 rfl) ?_
                  refine lv_iload_n hx hb dX12_quotientOfDecimals_317 rfl (lv_at hl 1 rfl) ?_
                  refine lv_iload_n hx hb dX12_quotientOfDecimals_318 rfl (lv_at hl 2 rfl) ?_
                  refine lv_iadd hx hb dX12_quotientOfDecimals_319 ?_
                  refine lv_iload_n hx hb dX12_quotientOfDecimals_320 rfl (lv_at hl 3 rfl) ?_
                  refine lv_isub hx hb dX12_quotientOfDecimals_321 ?_
                  refine lv_iload_n hx hb dX12_quotientOfDecimals_322 rfl (lv_at hl 3 rfl) ?_
                  refine lv_iconst (v := 1) hx hb dX12_quotientOfDecimals_323 (by decide) ?_
                  refine lv_iadd hx hb dX12_quotientOfDecimals_324 ?_
                  refine lv_aload_n hx hb dX12_quotientOfDecimals_325 rfl (lv_at hl 0 rfl) ?_
                  refine va_get (D := D) (ci := 12) (v := .int v_oneB) (C := RX12) (T := TX12) (N := 26) hx hb hts in_X12 hown hK hP 0 rfl rfl 20 (by decide) q_6 (fun _ h9 => h9) rfl dX12_quotientOfDecimals_326 ?_
                  refine lv_iconst (v := 1) hx hb dX12_quotientOfDecimals_329 (by decide) ?_
                  have hPc : va_P D vwCl (wX12_putDecimal cI cB a_mo a_mem a_mks a_mr a_cnt a_wd a_one a_two a_mmade a_mrest a_old v_thrown v_mask v_key v_wait v_problem v_code v_length v_cond v_masks v_addr v_mwanted g_192.1 v_after v_calls v_oneB v_twoB u_281 g_289.1) H := hP.sub [0, 1, 4] rfl
                  have hDc : va_D A (wX12_putDecimal cI cB a_mo a_mem a_mks a_mr a_cnt a_wd a_one a_two a_mmade a_mrest a_old v_thrown v_mask v_key v_wait v_problem v_code v_length v_cond v_masks v_addr v_mwanted g_192.1 v_after v_calls v_oneB v_twoB u_281 g_289.1) := hD.sub [0, 1, 4] (by decide) rfl
                  have hFc := va_free (wc := (wX12_putDecimal cI cB a_mo a_mem a_mks a_mr a_cnt a_wd a_one a_two a_mmade a_mrest a_old v_thrown v_mask v_key v_wait v_problem v_code v_length v_cond v_masks v_addr v_mwanted g_192.1 v_after v_calls v_oneB v_twoB u_281 g_289.1)) hD hS hA [0, 1, 4] rfl
                  refine va_calli (va_runV (As := [.int (((x0 + x1) - x2)), .int (x2 + 1), .int v_oneB, .int 1]) (rest := []) ⟨hx, hb, hml, hown, hts⟩ (kX12_putDecimal l D cI cB a_mo a_mem a_mks a_mr a_cnt a_wd a_one a_two a_mmade a_mrest a_old H.size v_thrown v_mask v_key v_wait v_problem v_code v_length v_cond v_masks v_addr v_mwanted g_192.1 v_after v_calls v_oneB v_twoB u_281 g_289.1 ((x0 + x1) - x2) (x2 + 1) v_oneB 1 (qd_n2 hm) (qd_a2 hm ha)) (cwV 4 hts (gd_V wd_897 wd_898 wd_899 wd_807 wd_893) rfl rfl rfl hdX12_putDecimal ⟨Nat.le_of_ble_eq_true rfl, Nat.le_of_ble_eq_true rfl⟩) (preV_std (ci := 12) (q0 := 0) hPc hK hDc hNW rfl rfl) rfl rfl hl.1 rfl (lv_room (Nat.le_of_ble_eq_true rfl)) dX12_quotientOfDecimals_330 ⟨Nat.zero_le _, Nat.zero_le _⟩) hS (fun q _ h => hFc q h) hFc (fun r_330 u_330 t9 H1 locs ht9 hvm9 hw9 hB9 hz9 hk9 hS => ?_)
                  obtain ⟨er_330, eu_330⟩ := hw9
                  have zr_330 : r_330 = 0 ∨ r_330 = 1 := by rw [er_330]; exact zX12_putDecimal _ _ _ _ _ _
                  obtain ⟨hP, hD⟩ := back_std (w1 := (wX12_putDecimal cI cB a_mo a_mem a_mks a_mr a_cnt a_wd a_one a_two a_mmade a_mrest a_old v_thrown v_mask v_key v_wait v_problem v_code v_length v_cond v_masks v_addr v_mwanted g_192.1 v_after v_calls v_oneB v_twoB u_330 g_289.1)) (w2 := (wX12_quotientOfDecimals cI cB a_mo a_mem a_mks a_mr a_cnt a_wd a_one a_two a_mmade a_mrest a_old v_thrown v_mask v_key v_wait v_problem v_code v_length v_cond v_masks v_addr v_mwanted g_192.1 v_after v_calls v_oneB v_twoB u_330 v_oneF v_twoF g_289.1 g_53.2.1 g_53.2.2.1)) (wr := [(a_one, .inl (cI, 80, .inl v_oneF)), (a_two, .inl (cI, 80, .inl v_twoF)), (a_mrest, .inl (cI, 80, .inl g_53.2.1)), (a_old, .inl (cI, 512, .inl g_53.2.2.1))]) hP hD [0, 1, 4] [2, 3, 5, 6] [4, 5, 0, 1, 6, 2, 3] rfl rfl (by decide) (by decide) hk9 hFc hB9 ht9 (by decide) rfl
                  clear hB9 hk9 hz9 hvm9 ht9 hFc hPc hDc
                  generalize H1 = H at hP hS ⊢
                  refine lv_istore (lv' := [(5, .int r_330), (0, .ref a_mo), (1, .int x0), (2, .int x1), (3, .int x2), (4, .int x_186), (6, .int g_289.2)]) hx hb dX12_quotientOfDecimals_333 hl (by decide) rfl (fun ls hl => ?_)
                  have hf9 : (g_192.1, u_330, g_289.1, g_53.2.1, g_53.2.2.1) = fX12_quotientOfDecimals x0 x1 x2 v_wrong v_oneB v_twoB v_mF v_oneF v_twoF v_mmF v_resF v_oldF := by subst ex_186; simp only [fX12_quotientOfDecimals, ← er_4, ← eg_20, ← eg_53, ← eg_192, ← eg_232, ← em_280, ← er_281, ← eu_281, ← eg_289, ← er_330, ← eu_330]; (try simp only [if_pos c_7, if_pos c_225])
                  exact W.vret hx hb hr (fun t9 ht9 hW9 => ⟨⟨(g_192.1, u_330, g_289.1, g_53.2.1, g_53.2.2.1), rfl, hf9, ⟨by rw [ht9]; exact hP, va_K.moved hW9.alike hK, hD⟩⟩, hS.F ht9⟩) hS.2.2 dX12_quotientOfDecimals_335
                have lp_289 : ∀ (n9 : Nat) (w_289 : ((Nat → Int32) × Int32)), msU 80 w_289.2 < n9 → 0 ≤ w_289.2 → LX12_quotientOfDecimals_289 g_53 n9 w_289 = g_289 → ∀ (H : Heap) (locs : List Loc), va_P D vwCl (wX12_quotientOfDecimals cI cB a_mo a_mem a_mks a_mr a_cnt a_wd a_one a_two a_mmade a_mrest a_old v_thrown v_mask v_key v_wait v_problem v_code v_length v_cond v_masks v_addr v_mwanted g_192.1 v_after v_calls v_oneB v_twoB u_281 v_oneF v_twoF w_289.1 g_53.2.1 g_53.2.2.1) H → va_D A (wX12_quotientOfDecimals cI cB a_mo a_mem a_mks a_mr a_cnt a_wd a_one a_two a_mmade a_mrest a_old v_thrown v_mask v_key v_wait v_problem v_code v_length v_cond v_masks v_addr v_mwanted g_192.1 v_after v_calls v_oneB v_twoB u_281 v_oneF v_twoF w_289.1 g_53.2.1 g_53.2.2.1) → va_S A s.heap H locs → ∀ (ls : Array Slot), lv_has ls 7 [(0, .ref a_mo), (1, .int x0), (2, .int x1), (3, .int x2), (4, .int x_186), (5, .int r_281), (6, .int w_289.2)] → W p l e rmX12_quotientOfDecimals s m ([.ref a_mo, .int x0, .int x1, .int x2] : List Value).toArray below meth c H locs 0 0 (MQ below (qX12_quotientOfDecimals D cI cB a_mo a_mem a_mks a_mr a_cnt a_wd a_one a_two a_mmade a_mrest a_old v_thrown v_mask v_key v_wait v_problem v_code v_length v_cond v_masks v_addr v_mwanted v_wrong v_after v_calls v_oneB v_twoB v_mF v_oneF v_twoF v_mmF v_resF v_oldF x0 x1 x2 A) ([.ref a_mo, .int x0, .int x1, .int x2] : List Value).toArray s 0 0 A) (F0 m 289 ls []) := by
                  intro n9
                  induction n9 with
                  | zero => intro w_289 hm9; exact absurd hm9 (Nat.not_lt_zero _)
                  | succ n9 ih =>
                    intro w_289 hm9 hI9 hL9 H locs hP hD hS ls hl
                    have hI_289 := hI9
                    refine lv_iload hx hb dX12_quotientOfDecimals_289 (lv_at hl 6 rfl) ?_
                    refine lv_bipush (v := 80) hx hb dX12_quotientOfDecimals_291 (by decide) ?_
                    refine lv_icmp_ge (tgt := 316) hx hb dX12_quotientOfDecimals_293 (by decide) (fun c_293 => ?_) (fun c_293 => ?_)
                    · skip
                      have hg9 : (w_289.1, w_289.2) = g_289 := by rw [← hL9]; simp only [LX12_quotientOfDecimals_289]; (try simp only [if_pos c_293])
                      subst hg9
                      exact K_289_0 _ _ hP hD hS ls (lv_sub hl [0, 1, 2, 3, 4, 5, 6] rfl)
                    · skip
                      refine lv_aload_n hx hb dX12_quotientOfDecimals_296 rfl (lv_at hl 0 rfl) ?_
                      refine va_get (D := D) (ci := 12) (v := .ref a_mmade) (C := RX12) (T := TX12) (N := 26) hx hb hts in_X12 hown hK hP 0 rfl rfl 23 (by decide) q_4 (fun _ h9 => h9) rfl dX12_quotientOfDecimals_297 ?_
                      refine lv_iload hx hb dX12_quotientOfDecimals_300 (lv_at hl 6 rfl) ?_
                      refine lv_aload_n hx hb dX12_quotientOfDecimals_302 rfl (lv_at hl 0 rfl) ?_
                      refine va_get (D := D) (ci := 12) (v := .ref a_mrest) (C := RX12) (T := TX12) (N := 26) hx hb hts in_X12 hown hK hP 0 rfl rfl 24 (by decide) q_1 (fun _ h9 => h9) rfl dX12_quotientOfDecimals_303 ?_
                      refine lv_iload hx hb dX12_quotientOfDecimals_306 (lv_at hl 6 rfl) ?_
                      refine va_iald hx hb hK hP 5 0 rfl rfl (by first | with_reducible assumption | exact vin_of (b := 80) (by decide) (by with_reducible assumption) (by with_reducible assumption) | exact vin_of (b := 80) (by decide) (Int32.not_lt.mp (by with_reducible assumption)) (by with_reducible assumption) | exact vin_dn (by decide) (by with_reducible assumption) hI9) dX12_quotientOfDecimals_308 ?_
                      refine va_iast hx hb hK hP hD hS 4 0 rfl rfl (by first | with_reducible assumption | exact vin_of (b := 80) (by decide) (by with_reducible assumption) (by with_reducible assumption) | exact vin_of (b := 80) (by decide) (Int32.not_lt.mp (by with_reducible assumption)) (by with_reducible assumption) | exact vin_dn (by decide) (by with_reducible assumption) hI9) dX12_quotientOfDecimals_309 (fun H locs hP hD hS => ?_)
                      obtain ⟨f_309, ef_309⟩ : ∃ z : Nat → Int32, z = upd w_289.1 (w_289.2 : Int32).toNatClampNeg ((g_53.2.1 (w_289.2 : Int32).toNatClampNeg)) := ⟨_, rfl⟩
                      have hP : va_P D vwCl (wX12_quotientOfDecimals cI cB a_mo a_mem a_mks a_mr a_cnt a_wd a_one a_two a_mmade a_mrest a_old v_thrown v_mask v_key v_wait v_problem v_code v_length v_cond v_masks v_addr v_mwanted g_192.1 v_after v_calls v_oneB v_twoB u_281 v_oneF v_twoF (upd w_289.1 (w_289.2 : Int32).toNatClampNeg ((g_53.2.1 (w_289.2 : Int32).toNatClampNeg))) g_53.2.1 g_53.2.2.1) H := hP
                      have hD : va_D A (wX12_quotientOfDecimals cI cB a_mo a_mem a_mks a_mr a_cnt a_wd a_one a_two a_mmade a_mrest a_old v_thrown v_mask v_key v_wait v_problem v_code v_length v_cond v_masks v_addr v_mwanted g_192.1 v_after v_calls v_oneB v_twoB u_281 v_oneF v_twoF (upd w_289.1 (w_289.2 : Int32).toNatClampNeg ((g_53.2.1 (w_289.2 : Int32).toNatClampNeg))) g_53.2.1 g_53.2.2.1) := hD
                      rw [← ef_309] at hP hD
                      obtain ⟨x_310, ex_310⟩ : ∃ z : Int32, z = w_289.2 + 1 := ⟨_, rfl⟩
                      refine lv_iinc (v := x_310) (lv' := [(6, .int x_310), (0, .ref a_mo), (1, .int x0), (2, .int x1), (3, .int x2), (4, .int x_186), (5, .int r_281)]) hx hb dX12_quotientOfDecimals_310 hl (k := 6) rfl (by rw [ex_310]; rfl) (by decide) rfl (fun ls hl => ?_)
                      refine lv_goto (tgt := 289) hx hb dX12_quotientOfDecimals_313 (by decide) ?_
                      exact ih (f_309, x_310) (by subst ex_310; subst ef_309;  exact Nat.lt_of_lt_of_le (ms_up c_293) (Nat.le_of_lt_succ hm9)) (by subst ex_310; subst ef_309;  exact nn_up hI9 c_293) (by rw [← hL9]; subst ex_310; subst ef_309; simp only [LX12_quotientOfDecimals_289]; (try simp only [if_neg c_293])) _ _ hP hD hS ls (lv_sub hl [1, 2, 3, 4, 5, 6, 0] rfl)
                exact lp_289 (msU 80 0 + 1) (g_232.1, 0) (Nat.lt_succ_self _) (by show (0 : Int32) ≤ 0; decide) eg_289.symm _ _ hP hD hS ls (lv_sub hl [2, 3, 4, 5, 6, 1, 0] rfl)
              refine lv_icmp_eq (tgt := 279) hx hb dX12_quotientOfDecimals_272 (by decide) (fun c_272 => ?_) (fun c_272 => ?_)
              · skip
                refine lv_iconst (v := 0) hx hb dX12_quotientOfDecimals_279 (by decide) ?_
                exact J_280 0 (by (try simp only [if_pos c_272])) _ _ hP hD hS ls (lv_sub hl [0, 1, 2, 3, 4, 5] rfl)
              · skip
                refine lv_iconst (v := 1) hx hb dX12_quotientOfDecimals_275 (by decide) ?_
                refine lv_goto (tgt := 280) hx hb dX12_quotientOfDecimals_276 (by decide) ?_
                exact J_280 1 (by (try simp only [if_neg c_272])) _ _ hP hD hS ls (lv_sub hl [0, 1, 2, 3, 4, 5] rfl)
            have lp_232 : ∀ (n9 : Nat) (w_232 : ((Nat → Int32) × Int32)), msU 80 w_232.2 < n9 → 0 ≤ w_232.2 → LX12_quotientOfDecimals_232 g_53 n9 w_232 = g_232 → ∀ (H : Heap) (locs : List Loc), va_P D vwCl (wX12_quotientOfDecimals cI cB a_mo a_mem a_mks a_mr a_cnt a_wd a_one a_two a_mmade a_mrest a_old v_thrown v_mask v_key v_wait v_problem v_code v_length v_cond v_masks v_addr v_mwanted g_192.1 v_after v_calls v_oneB v_twoB v_mF v_oneF v_twoF w_232.1 g_53.2.1 g_53.2.2.1) H → va_D A (wX12_quotientOfDecimals cI cB a_mo a_mem a_mks a_mr a_cnt a_wd a_one a_two a_mmade a_mrest a_old v_thrown v_mask v_key v_wait v_problem v_code v_length v_cond v_masks v_addr v_mwanted g_192.1 v_after v_calls v_oneB v_twoB v_mF v_oneF v_twoF w_232.1 g_53.2.1 g_53.2.2.1) → va_S A s.heap H locs → ∀ (ls : Array Slot), lv_has ls 7 [(0, .ref a_mo), (1, .int x0), (2, .int x1), (3, .int x2), (4, .int x_186), (5, .int w_232.2)] → W p l e rmX12_quotientOfDecimals s m ([.ref a_mo, .int x0, .int x1, .int x2] : List Value).toArray below meth c H locs 0 0 (MQ below (qX12_quotientOfDecimals D cI cB a_mo a_mem a_mks a_mr a_cnt a_wd a_one a_two a_mmade a_mrest a_old v_thrown v_mask v_key v_wait v_problem v_code v_length v_cond v_masks v_addr v_mwanted v_wrong v_after v_calls v_oneB v_twoB v_mF v_oneF v_twoF v_mmF v_resF v_oldF x0 x1 x2 A) ([.ref a_mo, .int x0, .int x1, .int x2] : List Value).toArray s 0 0 A) (F0 m 232 ls []) := by
              intro n9
              induction n9 with
              | zero => intro w_232 hm9; exact absurd hm9 (Nat.not_lt_zero _)
              | succ n9 ih =>
                intro w_232 hm9 hI9 hL9 H locs hP hD hS ls hl
                have hI_232 := hI9
                refine lv_iload hx hb dX12_quotientOfDecimals_232 (lv_at hl 5 rfl) ?_
                refine lv_bipush (v := 80) hx hb dX12_quotientOfDecimals_234 (by decide) ?_
                refine lv_icmp_ge (tgt := 259) hx hb dX12_quotientOfDecimals_236 (by decide) (fun c_236 => ?_) (fun c_236 => ?_)
                · skip
                  have hg9 : (w_232.1, w_232.2) = g_232 := by rw [← hL9]; simp only [LX12_quotientOfDecimals_232]; (try simp only [if_pos c_236])
                  subst hg9
                  exact K_232_0 _ _ hP hD hS ls (lv_sub hl [0, 1, 2, 3, 4, 5] rfl)
                · skip
                  refine lv_aload_n hx hb dX12_quotientOfDecimals_239 rfl (lv_at hl 0 rfl) ?_
                  refine va_get (D := D) (ci := 12) (v := .ref a_mmade) (C := RX12) (T := TX12) (N := 26) hx hb hts in_X12 hown hK hP 0 rfl rfl 23 (by decide) q_4 (fun _ h9 => h9) rfl dX12_quotientOfDecimals_240 ?_
                  refine lv_iload hx hb dX12_quotientOfDecimals_243 (lv_at hl 5 rfl) ?_
                  refine lv_aload_n hx hb dX12_quotientOfDecimals_245 rfl (lv_at hl 0 rfl) ?_
                  refine va_get (D := D) (ci := 12) (v := .ref a_old) (C := RX12) (T := TX12) (N := 26) hx hb hts in_X12 hown hK hP 0 rfl rfl 25 (by decide) q_2 (fun _ h9 => h9) rfl dX12_quotientOfDecimals_246 ?_
                  refine lv_iload hx hb dX12_quotientOfDecimals_249 (lv_at hl 5 rfl) ?_
                  refine va_iald hx hb hK hP 6 0 rfl rfl (vin_lt (b := 80) (B := 80) (by decide) (by decide) hI9 c_236) dX12_quotientOfDecimals_251 ?_
                  refine va_iast hx hb hK hP hD hS 4 0 rfl rfl (by first | with_reducible assumption | exact vin_of (b := 80) (by decide) (by with_reducible assumption) (by with_reducible assumption) | exact vin_of (b := 80) (by decide) (Int32.not_lt.mp (by with_reducible assumption)) (by with_reducible assumption) | exact vin_dn (by decide) (by with_reducible assumption) hI9) dX12_quotientOfDecimals_252 (fun H locs hP hD hS => ?_)
                  obtain ⟨f_252, ef_252⟩ : ∃ z : Nat → Int32, z = upd w_232.1 (w_232.2 : Int32).toNatClampNeg ((g_53.2.2.1 (w_232.2 : Int32).toNatClampNeg)) := ⟨_, rfl⟩
                  have hP : va_P D vwCl (wX12_quotientOfDecimals cI cB a_mo a_mem a_mks a_mr a_cnt a_wd a_one a_two a_mmade a_mrest a_old v_thrown v_mask v_key v_wait v_problem v_code v_length v_cond v_masks v_addr v_mwanted g_192.1 v_after v_calls v_oneB v_twoB v_mF v_oneF v_twoF (upd w_232.1 (w_232.2 : Int32).toNatClampNeg ((g_53.2.2.1 (w_232.2 : Int32).toNatClampNeg))) g_53.2.1 g_53.2.2.1) H := hP
                  have hD : va_D A (wX12_quotientOfDecimals cI cB a_mo a_mem a_mks a_mr a_cnt a_wd a_one a_two a_mmade a_mrest a_old v_thrown v_mask v_key v_wait v_problem v_code v_length v_cond v_masks v_addr v_mwanted g_192.1 v_after v_calls v_oneB v_twoB v_mF v_oneF v_twoF (upd w_232.1 (w_232.2 : Int32).toNatClampNeg ((g_53.2.2.1 (w_232.2 : Int32).toNatClampNeg))) g_53.2.1 g_53.2.2.1) := hD
                  rw [← ef_252] at hP hD
                  obtain ⟨x_253, ex_253⟩ : ∃ z : Int32, z = w_232.2 + 1 := ⟨_, rfl⟩
                  refine lv_iinc (v := x_253) (lv' := [(5, .int x_253), (0, .ref a_mo), (1, .int x0), (2, .int x1), (3, .int x2), (4, .int x_186)]) hx hb dX12_quotientOfDecimals_253 hl (k := 5) rfl (by rw [ex_253]; rfl) (by decide) rfl (fun ls hl => ?_)
                  refine lv_goto (tgt := 232) hx hb dX12_quotientOfDecimals_256 (by decide) ?_
                  exact ih (f_252, x_253) (by subst ex_253; subst ef_252;  exact Nat.lt_of_lt_of_le (ms_up c_236) (Nat.le_of_lt_succ hm9)) (by subst ex_253; subst ef_252;  exact nn_up hI9 c_236) (by rw [← hL9]; subst ex_253; subst ef_252; simp only [LX12_quotientOfDecimals_232]; (try simp only [if_neg c_236])) _ _ hP hD hS ls (lv_sub hl [1, 2, 3, 4, 5, 0] rfl)
            exact lp_232 (msU 80 0 + 1) (g_53.1, 0) (Nat.lt_succ_self _) (by show (0 : Int32) ≤ 0; decide) eg_232.symm _ _ hP hD hS ls (lv_sub hl [1, 2, 3, 4, 5, 0] rfl)
          · skip
            have hf9 : (g_192.1, v_mF, g_53.1, g_53.2.1, g_53.2.2.1) = fX12_quotientOfDecimals x0 x1 x2 v_wrong v_oneB v_twoB v_mF v_oneF v_twoF v_mmF v_resF v_oldF := by subst ex_186; simp only [fX12_quotientOfDecimals, ← er_4, ← eg_20, ← eg_53, ← eg_192]; (try simp only [if_pos c_7, if_neg c_225])
            exact W.vret hx hb hr (fun t9 ht9 hW9 => ⟨⟨(g_192.1, v_mF, g_53.1, g_53.2.1, g_53.2.2.1), rfl, hf9, ⟨by rw [ht9]; exact hP, va_K.moved hW9.alike hK, hD⟩⟩, hS.F ht9⟩) hS.2.2 dX12_quotientOfDecimals_228
        have lp_192 : ∀ (n9 : Nat) (w_192 : (Int32 × Int32)), msU 80 w_192.2 < n9 → 0 ≤ w_192.2 → LX12_quotientOfDecimals_192 g_53 n9 w_192 = g_192 → ∀ (H : Heap) (locs : List Loc), va_P D vwCl (wX12_quotientOfDecimals cI cB a_mo a_mem a_mks a_mr a_cnt a_wd a_one a_two a_mmade a_mrest a_old v_thrown v_mask v_key v_wait v_problem v_code v_length v_cond v_masks v_addr v_mwanted w_192.1 v_after v_calls v_oneB v_twoB v_mF v_oneF v_twoF g_53.1 g_53.2.1 g_53.2.2.1) H → va_D A (wX12_quotientOfDecimals cI cB a_mo a_mem a_mks a_mr a_cnt a_wd a_one a_two a_mmade a_mrest a_old v_thrown v_mask v_key v_wait v_problem v_code v_length v_cond v_masks v_addr v_mwanted w_192.1 v_after v_calls v_oneB v_twoB v_mF v_oneF v_twoF g_53.1 g_53.2.1 g_53.2.2.1) → va_S A s.heap H locs → ∀ (ls : Array Slot), lv_has ls 7 [(0, .ref a_mo), (1, .int x0), (2, .int x1), (3, .int x2), (4, .int x_186), (5, .int w_192.2)] → W p l e rmX12_quotientOfDecimals s m ([.ref a_mo, .int x0, .int x1, .int x2] : List Value).toArray below meth c H locs 0 0 (MQ below (qX12_quotientOfDecimals D cI cB a_mo a_mem a_mks a_mr a_cnt a_wd a_one a_two a_mmade a_mrest a_old v_thrown v_mask v_key v_wait v_problem v_code v_length v_cond v_masks v_addr v_mwanted v_wrong v_after v_calls v_oneB v_twoB v_mF v_oneF v_twoF v_mmF v_resF v_oldF x0 x1 x2 A) ([.ref a_mo, .int x0, .int x1, .int x2] : List Value).toArray s 0 0 A) (F0 m 192 ls []) := by
          intro n9
          induction n9 with
          | zero => intro w_192 hm9; exact absurd hm9 (Nat.not_lt_zero _)
          | succ n9 ih =>
            intro w_192 hm9 hI9 hL9 H locs hP hD hS ls hl
            have hI_192 := hI9
            refine lv_iload hx hb dX12_quotientOfDecimals_192 (lv_at hl 5 rfl) ?_
            refine lv_bipush (v := 80) hx hb dX12_quotientOfDecimals_194 (by decide) ?_
            refine lv_icmp_ge (tgt := 221) hx hb dX12_quotientOfDecimals_196 (by decide) (fun c_196 => ?_) (fun c_196 => ?_)
            · skip
              have hg9 : (w_192.1, w_192.2) = g_192 := by rw [← hL9]; simp only [LX12_quotientOfDecimals_192]; (try simp only [if_pos c_196])
              subst hg9
              exact K_192_0 _ _ hP hD hS ls (lv_sub hl [0, 1, 2, 3, 4, 5] rfl)
            · skip
              refine lv_aload_n hx hb dX12_quotientOfDecimals_199 rfl (lv_at hl 0 rfl) ?_
              refine va_get (D := D) (ci := 12) (v := .ref a_old) (C := RX12) (T := TX12) (N := 26) hx hb hts in_X12 hown hK hP 0 rfl rfl 25 (by decide) q_2 (fun _ h9 => h9) rfl dX12_quotientOfDecimals_200 ?_
              refine lv_iload hx hb dX12_quotientOfDecimals_203 (lv_at hl 5 rfl) ?_
              refine va_iald hx hb hK hP 6 0 rfl rfl (vin_lt (b := 80) (B := 80) (by decide) (by decide) hI9 c_196) dX12_quotientOfDecimals_205 ?_
              have J_215 : ∀ (m_215 : Int32), m_215 = (if (g_53.2.2.1 (w_192.2 : Int32).toNatClampNeg) = 0 then (w_192.1) else (let u_212 := fX12_meet 11 w_192.1; u_212)) → ∀ (H : Heap) (locs : List Loc), va_P D vwCl (wX12_quotientOfDecimals cI cB a_mo a_mem a_mks a_mr a_cnt a_wd a_one a_two a_mmade a_mrest a_old v_thrown v_mask v_key v_wait v_problem v_code v_length v_cond v_masks v_addr v_mwanted m_215 v_after v_calls v_oneB v_twoB v_mF v_oneF v_twoF g_53.1 g_53.2.1 g_53.2.2.1) H → va_D A (wX12_quotientOfDecimals cI cB a_mo a_mem a_mks a_mr a_cnt a_wd a_one a_two a_mmade a_mrest a_old v_thrown v_mask v_key v_wait v_problem v_code v_length v_cond v_masks v_addr v_mwanted m_215 v_after v_calls v_oneB v_twoB v_mF v_oneF v_twoF g_53.1 g_53.2.1 g_53.2.2.1) → va_S A s.heap H locs → ∀ (ls : Array Slot), lv_has ls 7 [(0, .ref a_mo), (1, .int x0), (2, .int x1), (3, .int x2), (4, .int x_186), (5, .int w_192.2)] → W p l e rmX12_quotientOfDecimals s m ([.ref a_mo, .int x0, .int x1, .int x2] : List Value).toArray below meth c H locs 0 0 (MQ below (qX12_quotientOfDecimals D cI cB a_mo a_mem a_mks a_mr a_cnt a_wd a_one a_two a_mmade a_mrest a_old v_thrown v_mask v_key v_wait v_problem v_code v_length v_cond v_masks v_addr v_mwanted v_wrong v_after v_calls v_oneB v_twoB v_mF v_oneF v_twoF v_mmF v_resF v_oldF x0 x1 x2 A) ([.ref a_mo, .int x0, .int x1, .int x2] : List Value).toArray s 0 0 A) (F0 m 215 ls []) := by
                intro m_215 em_215 H locs hP hD hS ls hl
                try dsimp only at em_215
                obtain ⟨x_215, ex_215⟩ : ∃ z : Int32, z = w_192.2 + 1 := ⟨_, rfl⟩
                refine lv_iinc (v := x_215) (lv' := [(5, .int x_215), (0, .ref a_mo), (1, .int x0), (2, .int x1), (3, .int x2), (4, .int x_186)]) hx hb dX12_quotientOfDecimals_215 hl (k := 5) rfl (by rw [ex_215]; rfl) (by decide) rfl (fun ls hl => ?_)
                refine lv_goto (tgt := 192) hx hb dX12_quotientOfDecimals_218 (by decide) ?_
                exact ih (m_215, x_215) (by subst ex_215; subst em_215;  exact Nat.lt_of_lt_of_le (ms_up c_196) (Nat.le_of_lt_succ hm9)) (by subst ex_215; subst em_215;  exact nn_up hI9 c_196) (by rw [← hL9]; subst ex_215; simp only [LX12_quotientOfDecimals_192, ← em_215]; (try simp only [if_neg c_196])) _ _ hP hD hS ls (lv_sub hl [1, 2, 3, 4, 5, 0] rfl)
              refine lv_if_eq (tgt := 215) hx hb dX12_quotientOfDecimals_206 (by decide) (fun c_206 => ?_) (fun c_206 => ?_)
              · skip
                exact J_215 w_192.1 (by (try simp only [if_pos c_206])) _ _ hP hD hS ls (lv_sub hl [0, 1, 2, 3, 4, 5] rfl)
              · skip
                refine lv_aload_n hx hb dX12_quotientOfDecimals_209 rfl (lv_at hl 0 rfl) ?_
                refine lv_bipush (v := 11) hx hb dX12_quotientOfDecimals_210 (by decide) ?_
                have hPc : va_P D vwCl (wX12_meet cI cB a_mo a_mem a_mks a_mr a_cnt a_wd a_one a_two a_mmade a_mrest a_old v_thrown v_mask v_key v_wait v_problem v_code v_length v_cond v_masks v_addr v_mwanted w_192.1 v_after v_calls v_oneB v_twoB) H := hP.sub [0] rfl
                have hDc : va_D A (wX12_meet cI cB a_mo a_mem a_mks a_mr a_cnt a_wd a_one a_two a_mmade a_mrest a_old v_thrown v_mask v_key v_wait v_problem v_code v_length v_cond v_masks v_addr v_mwanted w_192.1 v_after v_calls v_oneB v_twoB) := hD.sub [0] (by decide) rfl
                have hFc := va_free (wc := (wX12_meet cI cB a_mo a_mem a_mks a_mr a_cnt a_wd a_one a_two a_mmade a_mrest a_old v_thrown v_mask v_key v_wait v_problem v_code v_length v_cond v_masks v_addr v_mwanted w_192.1 v_after v_calls v_oneB v_twoB)) hD hS hA [0] rfl
                refine va_callv (va_runV (As := [.int 11]) (rest := []) ⟨hx, hb, hml, hown, hts⟩ (kX12_meet l D cI cB a_mo a_mem a_mks a_mr a_cnt a_wd a_one a_two a_mmade a_mrest a_old H.size v_thrown v_mask v_key v_wait v_problem v_code v_length v_cond v_masks v_addr v_mwanted w_192.1 v_after v_calls v_oneB v_twoB 11) (cwV 1 hts (gd_V wd_838 wd_839 wd_840 wd_807 wd_835) rfl rfl rfl hdX12_meet ⟨Nat.le_of_ble_eq_true rfl, Nat.le_of_ble_eq_true rfl⟩) (preV_std (ci := 12) (q0 := 0) hPc hK hDc hNW rfl rfl) rfl rfl hl.1 rfl (lv_room (Nat.le_of_ble_eq_true rfl)) dX12_quotientOfDecimals_212 ⟨Nat.zero_le _, Nat.zero_le _⟩) hS (fun q _ h => hFc q h) hFc (fun u_212 t9 H1 locs ht9 hvm9 hw9 hB9 hz9 hk9 hS => ?_)
                have eu_212 : u_212 = fX12_meet 11 w_192.1 := hw9
                obtain ⟨hP, hD⟩ := back_std (w1 := (wX12_meet cI cB a_mo a_mem a_mks a_mr a_cnt a_wd a_one a_two a_mmade a_mrest a_old v_thrown v_mask v_key v_wait v_problem v_code v_length v_cond v_masks v_addr v_mwanted u_212 v_after v_calls v_oneB v_twoB)) (w2 := (wX12_quotientOfDecimals cI cB a_mo a_mem a_mks a_mr a_cnt a_wd a_one a_two a_mmade a_mrest a_old v_thrown v_mask v_key v_wait v_problem v_code v_length v_cond v_masks v_addr v_mwanted u_212 v_after v_calls v_oneB v_twoB v_mF v_oneF v_twoF g_53.1 g_53.2.1 g_53.2.2.1)) (wr := [(a_mem, .inl (cI, 8192, .inl v_mF)), (a_one, .inl (cI, 80, .inl v_oneF)), (a_two, .inl (cI, 80, .inl v_twoF)), (a_mmade, .inl (cI, 80, .inl g_53.1)), (a_mrest, .inl (cI, 80, .inl g_53.2.1)), (a_old, .inl (cI, 512, .inl g_53.2.2.1))]) hP hD [0] [1, 2, 3, 4, 5, 6] [6, 0, 1, 2, 3, 4, 5] rfl rfl (by decide) (by decide) hk9 hFc hB9 ht9 (by decide) rfl
                clear hB9 hk9 hz9 hvm9 ht9 hFc hPc hDc
                generalize H1 = H at hP hS ⊢
                exact J_215 u_212 (by (try simp only [← eu_212]); (try simp only [if_neg c_206])) _ _ hP hD hS ls (lv_sub hl [0, 1, 2, 3, 4, 5] rfl)
        exact lp_192 (msU 80 x_186 + 1) (v_wrong, x_186) (Nat.lt_succ_self _) (by rw [ex_186]; exact qd_room hm) eg_192.symm _ _ hP hD hS ls (lv_sub hl [2, 3, 4, 5, 1, 0] rfl)
      have lp_53 : ∀ (n9 : Nat) (w_53 : ((Nat → Int32) × (Nat → Int32) × (Nat → Int32) × Int32)), msD w_53.2.2.2 < n9 → (w_53.2.2.2 ≤ 40 ∧ dOk w_53.2.1) → LX12_quotientOfDecimals_53 v_oneF v_twoF n9 w_53 = g_53 → ∀ (H : Heap) (locs : List Loc), va_P D vwCl (wX12_quotientOfDecimals cI cB a_mo a_mem a_mks a_mr a_cnt a_wd a_one a_two a_mmade a_mrest a_old v_thrown v_mask v_key v_wait v_problem v_code v_length v_cond v_masks v_addr v_mwanted v_wrong v_after v_calls v_oneB v_twoB v_mF v_oneF v_twoF w_53.1 w_53.2.1 w_53.2.2.1) H → va_D A (wX12_quotientOfDecimals cI cB a_mo a_mem a_mks a_mr a_cnt a_wd a_one a_two a_mmade a_mrest a_old v_thrown v_mask v_key v_wait v_problem v_code v_length v_cond v_masks v_addr v_mwanted v_wrong v_after v_calls v_oneB v_twoB v_mF v_oneF v_twoF w_53.1 w_53.2.1 w_53.2.2.1) → va_S A s.heap H locs → ∀ (ls : Array Slot), lv_has ls 7 [(0, .ref a_mo), (1, .int x0), (2, .int x1), (3, .int x2), (4, .int w_53.2.2.2)] → W p l e rmX12_quotientOfDecimals s m ([.ref a_mo, .int x0, .int x1, .int x2] : List Value).toArray below meth c H locs 0 0 (MQ below (qX12_quotientOfDecimals D cI cB a_mo a_mem a_mks a_mr a_cnt a_wd a_one a_two a_mmade a_mrest a_old v_thrown v_mask v_key v_wait v_problem v_code v_length v_cond v_masks v_addr v_mwanted v_wrong v_after v_calls v_oneB v_twoB v_mF v_oneF v_twoF v_mmF v_resF v_oldF x0 x1 x2 A) ([.ref a_mo, .int x0, .int x1, .int x2] : List Value).toArray s 0 0 A) (F0 m 53 ls []) := by
        intro n9
        induction n9 with
        | zero => intro w_53 hm9; exact absurd hm9 (Nat.not_lt_zero _)
        | succ n9 ih =>
          intro w_53 hm9 hI9 hL9 H locs hP hD hS ls hl
          have hI_53 := hI9
          refine lv_iload hx hb dX12_quotientOfDecimals_53 (lv_at hl 4 rfl) ?_
          refine lv_if_lt (tgt := 179) hx hb dX12_quotientOfDecimals_55 (by decide) (fun c_55 => ?_) (fun c_55 => ?_)
          · skip
            have hg9 : (w_53.1, w_53.2.1, w_53.2.2.1, w_53.2.2.2) = g_53 := by rw [← hL9]; simp only [LX12_quotientOfDecimals_53]; (try simp only [if_pos c_55])
            subst hg9
            exact K_53_0 _ _ hP hD hS ls (lv_sub hl [0, 1, 2, 3, 4] rfl)
          · skip
            refine lv_bipush (v := 79) hx hb dX12_quotientOfDecimals_58 (by decide) ?_
            refine lv_istore (lv' := [(5, .int 79), (0, .ref a_mo), (1, .int x0), (2, .int x1), (3, .int x2), (4, .int w_53.2.2.2)]) hx hb dX12_quotientOfDecimals_60 hl (by decide) rfl (fun ls hl => ?_)
            obtain ⟨g_62, eg_62⟩ : ∃ z : ((Nat → Int32) × Int32), z = LX12_quotientOfDecimals_62  (msD 79 + 1) (w_53.2.1, 79) := ⟨_, rfl⟩
            have K_62_0 : ∀ (H : Heap) (locs : List Loc), va_P D vwCl (wX12_quotientOfDecimals cI cB a_mo a_mem a_mks a_mr a_cnt a_wd a_one a_two a_mmade a_mrest a_old v_thrown v_mask v_key v_wait v_problem v_code v_length v_cond v_masks v_addr v_mwanted v_wrong v_after v_calls v_oneB v_twoB v_mF v_oneF v_twoF w_53.1 g_62.1 w_53.2.2.1) H → va_D A (wX12_quotientOfDecimals cI cB a_mo a_mem a_mks a_mr a_cnt a_wd a_one a_two a_mmade a_mrest a_old v_thrown v_mask v_key v_wait v_problem v_code v_length v_cond v_masks v_addr v_mwanted v_wrong v_after v_calls v_oneB v_twoB v_mF v_oneF v_twoF w_53.1 g_62.1 w_53.2.2.1) → va_S A s.heap H locs → ∀ (ls : Array Slot), lv_has ls 7 [(0, .ref a_mo), (1, .int x0), (2, .int x1), (3, .int x2), (4, .int w_53.2.2.2), (5, .int g_62.2)] → W p l e rmX12_quotientOfDecimals s m ([.ref a_mo, .int x0, .int x1, .int x2] : List Value).toArray below meth c H locs 0 0 (MQ below (qX12_quotientOfDecimals D cI cB a_mo a_mem a_mks a_mr a_cnt a_wd a_one a_two a_mmade a_mrest a_old v_thrown v_mask v_key v_wait v_problem v_code v_length v_cond v_masks v_addr v_mwanted v_wrong v_after v_calls v_oneB v_twoB v_mF v_oneF v_twoF v_mmF v_resF v_oldF x0 x1 x2 A) ([.ref a_mo, .int x0, .int x1, .int x2] : List Value).toArray s 0 0 A) (F0 m 89 ls []) := by
              intro H locs hP hD hS ls hl
              refine lv_aload_n hx hb dX12_quotientOfDecimals_89 rfl (lv_at hl 0 rfl) ?_
              refine va_get (D := D) (ci := 12) (v := .ref a_mrest) (C := RX12) (T := TX12) (N := 26) hx hb hts in_X12 hown hK hP 0 rfl rfl 24 (by decide) q_1 (fun _ h9 => h9) rfl dX12_quotientOfDecimals_90 ?_
              refine lv_iconst (v := 0) hx hb dX12_quotientOfDecimals_93 (by decide) ?_
              refine lv_aload_n hx hb dX12_quotientOfDecimals_94 rfl (lv_at hl 0 rfl) ?_
              refine va_get (D := D) (ci := 12) (v := .ref a_one) (C := RX12) (T := TX12) (N := 26) hx hb hts in_X12 hown hK hP 0 rfl rfl 19 (by decide) q_3 (fun _ h9 => h9) rfl dX12_quotientOfDecimals_95 ?_
              refine lv_iload hx hb dX12_quotientOfDecimals_98 (lv_at hl 4 rfl) ?_
              refine va_iald hx hb hK hP 2 0 rfl rfl (vin_dn (by decide) c_55 hI9.1) dX12_quotientOfDecimals_100 ?_
              refine va_iast hx hb hK hP hD hS 5 0 rfl rfl (by unfold vp_in; decide) dX12_quotientOfDecimals_101 (fun H locs hP hD hS => ?_)
              obtain ⟨f_101, ef_101⟩ : ∃ z : Nat → Int32, z = upd g_62.1 (0 : Int32).toNatClampNeg ((v_oneF (w_53.2.2.2 : Int32).toNatClampNeg)) := ⟨_, rfl⟩
              have hP : va_P D vwCl (wX12_quotientOfDecimals cI cB a_mo a_mem a_mks a_mr a_cnt a_wd a_one a_two a_mmade a_mrest a_old v_thrown v_mask v_key v_wait v_problem v_code v_length v_cond v_masks v_addr v_mwanted v_wrong v_after v_calls v_oneB v_twoB v_mF v_oneF v_twoF w_53.1 (upd g_62.1 (0 : Int32).toNatClampNeg ((v_oneF (w_53.2.2.2 : Int32).toNatClampNeg))) w_53.2.2.1) H := hP
              have hD : va_D A (wX12_quotientOfDecimals cI cB a_mo a_mem a_mks a_mr a_cnt a_wd a_one a_two a_mmade a_mrest a_old v_thrown v_mask v_key v_wait v_problem v_code v_length v_cond v_masks v_addr v_mwanted v_wrong v_after v_calls v_oneB v_twoB v_mF v_oneF v_twoF w_53.1 (upd g_62.1 (0 : Int32).toNatClampNeg ((v_oneF (w_53.2.2.2 : Int32).toNatClampNeg))) w_53.2.2.1) := hD
              rw [← ef_101] at hP hD
              obtain ⟨g_102, eg_102⟩ : ∃ z : ((Nat → Int32) × (Nat → Int32) × (Nat → Int32) × Int32), z = LX12_quotientOfDecimals_102 v_twoF w_53 (val f_101 + 1) (w_53.1, f_101, w_53.2.2.1, g_62.2) := ⟨_, rfl⟩
              have K_102_0 : ∀ (H : Heap) (locs : List Loc), va_P D vwCl (wX12_quotientOfDecimals cI cB a_mo a_mem a_mks a_mr a_cnt a_wd a_one a_two a_mmade a_mrest a_old v_thrown v_mask v_key v_wait v_problem v_code v_length v_cond v_masks v_addr v_mwanted v_wrong v_after v_calls v_oneB v_twoB v_mF v_oneF v_twoF g_102.1 g_102.2.1 g_102.2.2.1) H → va_D A (wX12_quotientOfDecimals cI cB a_mo a_mem a_mks a_mr a_cnt a_wd a_one a_two a_mmade a_mrest a_old v_thrown v_mask v_key v_wait v_problem v_code v_length v_cond v_masks v_addr v_mwanted v_wrong v_after v_calls v_oneB v_twoB v_mF v_oneF v_twoF g_102.1 g_102.2.1 g_102.2.2.1) → va_S A s.heap H locs → ∀ (ls : Array Slot), lv_has ls 7 [(0, .ref a_mo), (1, .int x0), (2, .int x1), (3, .int x2), (4, .int w_53.2.2.2), (5, .int g_102.2.2.2)] → W p l e rmX12_quotientOfDecimals s m ([.ref a_mo, .int x0, .int x1, .int x2] : List Value).toArray below meth c H locs 0 0 (MQ below (qX12_quotientOfDecimals D cI cB a_mo a_mem a_mks a_mr a_cnt a_wd a_one a_two a_mmade a_mrest a_old v_thrown v_mask v_key v_wait v_problem v_code v_length v_cond v_masks v_addr v_mwanted v_wrong v_after v_calls v_oneB v_twoB v_mF v_oneF v_twoF v_mmF v_resF v_oldF x0 x1 x2 A) ([.ref a_mo, .int x0, .int x1, .int x2] : List Value).toArray s 0 0 A) (F0 m 173 ls []) := by
                intro H locs hP hD hS ls hl
                obtain ⟨x_173, ex_173⟩ : ∃ z : Int32, z = w_53.2.2.2 + (-1) := ⟨_, rfl⟩
                refine lv_iinc (v := x_173) (lv' := [(4, .int x_173), (0, .ref a_mo), (1, .int x0), (2, .int x1), (3, .int x2), (5, .int g_102.2.2.2)]) hx hb dX12_quotientOfDecimals_173 hl (k := 4) rfl (by rw [ex_173]; rfl) (by decide) rfl (fun ls hl => ?_)
                refine lv_goto (tgt := 53) hx hb dX12_quotientOfDecimals_176 (by decide) ?_
                exact ih (g_102.1, g_102.2.1, g_102.2.2.1, x_173) (by subst ex_173; subst eg_102; subst ef_101; subst eg_62; exact Nat.lt_of_lt_of_le (ms_dn c_55) (Nat.le_of_lt_succ hm9)) (⟨by subst ex_173; subst eg_102; subst ef_101; subst eg_62; exact le_dn hI9.1 c_55, by rw [eg_102]; exact qd_keep h2 _ _ (qd_shift h1 hI9.1 c_55 hI9.2 eg_62 ef_101)⟩) (by rw [← hL9]; subst ex_173; subst ef_101; simp only [LX12_quotientOfDecimals_53, ← eg_62, ← eg_102]; (try simp only [if_neg c_55])) _ _ hP hD hS ls (lv_sub hl [1, 2, 3, 4, 0] rfl)
              have lp_102 : ∀ (n9 : Nat) (w_102 : ((Nat → Int32) × (Nat → Int32) × (Nat → Int32) × Int32)), val w_102.2.1 < n9 → dOk w_102.2.1 → LX12_quotientOfDecimals_102 v_twoF w_53 n9 w_102 = g_102 → ∀ (H : Heap) (locs : List Loc), va_P D vwCl (wX12_quotientOfDecimals cI cB a_mo a_mem a_mks a_mr a_cnt a_wd a_one a_two a_mmade a_mrest a_old v_thrown v_mask v_key v_wait v_problem v_code v_length v_cond v_masks v_addr v_mwanted v_wrong v_after v_calls v_oneB v_twoB v_mF v_oneF v_twoF w_102.1 w_102.2.1 w_102.2.2.1) H → va_D A (wX12_quotientOfDecimals cI cB a_mo a_mem a_mks a_mr a_cnt a_wd a_one a_two a_mmade a_mrest a_old v_thrown v_mask v_key v_wait v_problem v_code v_length v_cond v_masks v_addr v_mwanted v_wrong v_after v_calls v_oneB v_twoB v_mF v_oneF v_twoF w_102.1 w_102.2.1 w_102.2.2.1) → va_S A s.heap H locs → ∀ (ls : Array Slot), lv_has ls 7 [(0, .ref a_mo), (1, .int x0), (2, .int x1), (3, .int x2), (4, .int w_53.2.2.2), (5, .int w_102.2.2.2)] → W p l e rmX12_quotientOfDecimals s m ([.ref a_mo, .int x0, .int x1, .int x2] : List Value).toArray below meth c H locs 0 0 (MQ below (qX12_quotientOfDecimals D cI cB a_mo a_mem a_mks a_mr a_cnt a_wd a_one a_two a_mmade a_mrest a_old v_thrown v_mask v_key v_wait v_problem v_code v_length v_cond v_masks v_addr v_mwanted v_wrong v_after v_calls v_oneB v_twoB v_mF v_oneF v_twoF v_mmF v_resF v_oldF x0 x1 x2 A) ([.ref a_mo, .int x0, .int x1, .int x2] : List Value).toArray s 0 0 A) (F0 m 102 ls []) := by
                intro n9
                induction n9 with
                | zero => intro w_102 hm9; exact absurd hm9 (Nat.not_lt_zero _)
                | succ n9 ih =>
                  intro w_102 hm9 hI9 hL9 H locs hP hD hS ls hl
                  have hI_102 := hI9
                  refine lv_aload_n hx hb dX12_quotientOfDecimals_102 rfl (lv_at hl 0 rfl) ?_
                  refine va_get (D := D) (ci := 12) (v := .ref a_mrest) (C := RX12) (T := TX12) (N := 26) hx hb hts in_X12 hown hK hP 0 rfl rfl 24 (by decide) q_1 (fun _ h9 => h9) rfl dX12_quotientOfDecimals_103 ?_
                  refine lv_aload_n hx hb dX12_quotientOfDecimals_106 rfl (lv_at hl 0 rfl) ?_
                  refine va_get (D := D) (ci := 12) (v := .ref a_two) (C := RX12) (T := TX12) (N := 26) hx hb hts in_X12 hown hK hP 0 rfl rfl 21 (by decide) q_0 (fun _ h9 => h9) rfl dX12_quotientOfDecimals_107 ?_
                  have hPc : va_P D vwCl (wX12_order cI cB a_mrest a_two w_102.2.1 v_twoF) H := hP.sub [5, 3] rfl
                  have hDc : va_D A (wX12_order cI cB a_mrest a_two w_102.2.1 v_twoF) := hD.sub [5, 3] (by decide) rfl
                  have hFc := va_free (wc := (wX12_order cI cB a_mrest a_two w_102.2.1 v_twoF)) hD hS hA [5, 3] rfl
                  refine va_calli (va_runS (As := [.ref a_mrest, .ref a_two]) (rest := []) ⟨hx, hb, hml, hown, hts⟩ (kX12_order l D cI cB a_mrest a_two H.size w_102.2.1 v_twoF ) (va_cwS 2 hts (gd_S wd_903 wd_904 wd_807 wd_890) rfl rfl rfl hdX12_order.2 ⟨Nat.le_of_ble_eq_true rfl, Nat.le_of_ble_eq_true rfl⟩) (preS_std hPc hK hDc hNW) rfl rfl hl.1 rfl (lv_room (Nat.le_of_ble_eq_true rfl)) dX12_quotientOfDecimals_110 ⟨Nat.zero_le _, Nat.zero_le _⟩) hS (fun q _ h => hFc q h) hFc (fun r_110 u_110 t9 H1 locs ht9 hvm9 hw9 hB9 hz9 hk9 hS => ?_)
                  have er_110 : r_110 = fX12_order w_102.2.1 v_twoF := hw9
                  obtain ⟨hP, hD⟩ := back_std (w1 := (wX12_order cI cB a_mrest a_two w_102.2.1 v_twoF)) (w2 := (wX12_quotientOfDecimals cI cB a_mo a_mem a_mks a_mr a_cnt a_wd a_one a_two a_mmade a_mrest a_old v_thrown v_mask v_key v_wait v_problem v_code v_length v_cond v_masks v_addr v_mwanted v_wrong v_after v_calls v_oneB v_twoB v_mF v_oneF v_twoF w_102.1 w_102.2.1 w_102.2.2.1)) (wr := [(a_mo, .inr (12, [.int v_thrown, .ref a_mem, .ref a_mks, .ref a_mr, .int v_mask, .int v_key, .int v_wait, .int v_problem, .int v_code, .int v_length, .int v_cond, .int v_masks, .int v_addr, .int v_mwanted, .ref a_cnt, .ref a_wd, .int v_wrong, .int v_after, .int v_calls, .ref a_one, .int v_oneB, .ref a_two, .int v_twoB, .ref a_mmade, .ref a_mrest, .ref a_old])), (a_mem, .inl (cI, 8192, .inl v_mF)), (a_one, .inl (cI, 80, .inl v_oneF)), (a_mmade, .inl (cI, 80, .inl w_102.1)), (a_old, .inl (cI, 512, .inl w_102.2.2.1))]) hP hD [5, 3] [0, 1, 2, 4, 6] [0, 1, 2, 6, 3, 5, 4] rfl rfl (by decide) (by decide) hk9 hFc hB9 ht9 (by decide) rfl
                  clear hB9 hk9 hz9 hvm9 ht9 hFc hPc hDc
                  generalize H1 = H at hP hS ⊢
                  refine lv_if_lt (tgt := 173) hx hb dX12_quotientOfDecimals_113 (by decide) (fun c_113 => ?_) (fun c_113 => ?_)
                  · skip
                    have hg9 : (w_102.1, w_102.2.1, w_102.2.2.1, w_102.2.2.2) = g_102 := by rw [← hL9]; simp only [LX12_quotientOfDecimals_102, ← er_110]; (try simp only [if_pos c_113])
                    subst hg9
                    exact K_102_0 _ _ hP hD hS ls (lv_sub hl [0, 1, 2, 3, 4, 5] rfl)
                  · skip
                    refine lv_aload_n hx hb dX12_quotientOfDecimals_116 rfl (lv_at hl 0 rfl) ?_
                    refine lv_aload_n hx hb dX12_quotientOfDecimals_117 rfl (lv_at hl 0 rfl) ?_
                    refine va_get (D := D) (ci := 12) (v := .ref a_mrest) (C := RX12) (T := TX12) (N := 26) hx hb hts in_X12 hown hK hP 0 rfl rfl 24 (by decide) q_1 (fun _ h9 => h9) rfl dX12_quotientOfDecimals_118 ?_
                    refine lv_aload_n hx hb dX12_quotientOfDecimals_121 rfl (lv_at hl 0 rfl) ?_
                    refine va_get (D := D) (ci := 12) (v := .ref a_two) (C := RX12) (T := TX12) (N := 26) hx hb hts in_X12 hown hK hP 0 rfl rfl 21 (by decide) q_0 (fun _ h9 => h9) rfl dX12_quotientOfDecimals_122 ?_
                    refine lv_iconst (v := (-1)) hx hb dX12_quotientOfDecimals_125 (by decide) ?_
                    have hPc : va_P D vwCl (wX12_addDigits cI cB a_mo a_mem a_mks a_mr a_cnt a_wd a_one a_two a_mmade a_mrest a_old a_mrest a_two v_thrown v_mask v_key v_wait v_problem v_code v_length v_cond v_masks v_addr v_mwanted v_wrong v_after v_calls v_oneB v_twoB w_102.1 w_102.2.1 v_twoF) H := hP.sub [0, 4, 5, 3] rfl
                    have hDc : va_D A (wX12_addDigits cI cB a_mo a_mem a_mks a_mr a_cnt a_wd a_one a_two a_mmade a_mrest a_old a_mrest a_two v_thrown v_mask v_key v_wait v_problem v_code v_length v_cond v_masks v_addr v_mwanted v_wrong v_after v_calls v_oneB v_twoB w_102.1 w_102.2.1 v_twoF) := hD.sub [0, 4, 5, 3] (by decide) rfl
                    have hFc := va_free (wc := (wX12_addDigits cI cB a_mo a_mem a_mks a_mr a_cnt a_wd a_one a_two a_mmade a_mrest a_old a_mrest a_two v_thrown v_mask v_key v_wait v_problem v_code v_length v_cond v_masks v_addr v_mwanted v_wrong v_after v_calls v_oneB v_twoB w_102.1 w_102.2.1 v_twoF)) hD hS hA [0, 4, 5, 3] rfl
                    refine va_callv (va_runV (As := [.ref a_mrest, .ref a_two, .int (-1)]) (rest := []) ⟨hx, hb, hml, hown, hts⟩ (kX12_addDigits l D cI cB a_mo a_mem a_mks a_mr a_cnt a_wd a_one a_two a_mmade a_mrest a_old a_mrest a_two H.size v_thrown v_mask v_key v_wait v_problem v_code v_length v_cond v_masks v_addr v_mwanted v_wrong v_after v_calls v_oneB v_twoB w_102.1 w_102.2.1 v_twoF (-1)) (cwV 3 hts (gd_V wd_900 wd_901 wd_902 wd_807 wd_892) rfl rfl rfl hdX12_addDigits ⟨Nat.le_of_ble_eq_true rfl, Nat.le_of_ble_eq_true rfl⟩) (preV_std (ci := 12) (q0 := 0) hPc hK hDc hNW rfl rfl) rfl rfl hl.1 rfl (lv_room (Nat.le_of_ble_eq_true rfl)) dX12_quotientOfDecimals_126 ⟨Nat.zero_le _, Nat.zero_le _⟩) hS (fun q _ h => hFc q h) hFc (fun u_126 t9 H1 locs ht9 hvm9 hw9 hB9 hz9 hk9 hS => ?_)
                    have eu_126 : u_126 = fX12_addDigits (-1) w_102.1 w_102.2.1 v_twoF := hw9
                    obtain ⟨hP, hD⟩ := back_std (w1 := (wX12_addDigits cI cB a_mo a_mem a_mks a_mr a_cnt a_wd a_one a_two a_mmade a_mrest a_old a_mrest a_two v_thrown v_mask v_key v_wait v_problem v_code v_length v_cond v_masks v_addr v_mwanted v_wrong v_after v_calls v_oneB v_twoB u_126 w_102.2.1 v_twoF)) (w2 := (wX12_quotientOfDecimals cI cB a_mo a_mem a_mks a_mr a_cnt a_wd a_one a_two a_mmade a_mrest a_old v_thrown v_mask v_key v_wait v_problem v_code v_length v_cond v_masks v_addr v_mwanted v_wrong v_after v_calls v_oneB v_twoB v_mF v_oneF v_twoF u_126 w_102.2.1 w_102.2.2.1)) (wr := [(a_mem, .inl (cI, 8192, .inl v_mF)), (a_one, .inl (cI, 80, .inl v_oneF)), (a_old, .inl (cI, 512, .inl w_102.2.2.1))]) hP hD [0, 4, 5, 3] [1, 2, 6] [3, 0, 1, 6, 4, 5, 2] rfl rfl (by decide) (by decide) hk9 hFc hB9 ht9 (by decide) rfl
                    clear hB9 hk9 hz9 hvm9 ht9 hFc hPc hDc
                    generalize H1 = H at hP hS ⊢
                    refine lv_iconst (v := 0) hx hb dX12_quotientOfDecimals_129 (by decide) ?_
                    refine lv_istore (lv' := [(5, .int 0), (0, .ref a_mo), (1, .int x0), (2, .int x1), (3, .int x2), (4, .int w_53.2.2.2)]) hx hb dX12_quotientOfDecimals_130 hl (by decide) rfl (fun ls hl => ?_)
                    obtain ⟨g_132, eg_132⟩ : ∃ z : ((Nat → Int32) × Int32), z = LX12_quotientOfDecimals_132 u_126 (msU 80 0 + 1) (w_102.2.1, 0) := ⟨_, rfl⟩
                    have K_132_0 : ∀ (H : Heap) (locs : List Loc), va_P D vwCl (wX12_quotientOfDecimals cI cB a_mo a_mem a_mks a_mr a_cnt a_wd a_one a_two a_mmade a_mrest a_old v_thrown v_mask v_key v_wait v_problem v_code v_length v_cond v_masks v_addr v_mwanted v_wrong v_after v_calls v_oneB v_twoB v_mF v_oneF v_twoF u_126 g_132.1 w_102.2.2.1) H → va_D A (wX12_quotientOfDecimals cI cB a_mo a_mem a_mks a_mr a_cnt a_wd a_one a_two a_mmade a_mrest a_old v_thrown v_mask v_key v_wait v_problem v_code v_length v_cond v_masks v_addr v_mwanted v_wrong v_after v_calls v_oneB v_twoB v_mF v_oneF v_twoF u_126 g_132.1 w_102.2.2.1) → va_S A s.heap H locs → ∀ (ls : Array Slot), lv_has ls 7 [(0, .ref a_mo), (1, .int x0), (2, .int x1), (3, .int x2), (4, .int w_53.2.2.2), (5, .int g_132.2)] → W p l e rmX12_quotientOfDecimals s m ([.ref a_mo, .int x0, .int x1, .int x2] : List Value).toArray below meth c H locs 0 0 (MQ below (qX12_quotientOfDecimals D cI cB a_mo a_mem a_mks a_mr a_cnt a_wd a_one a_two a_mmade a_mrest a_old v_thrown v_mask v_key v_wait v_problem v_code v_length v_cond v_masks v_addr v_mwanted v_wrong v_after v_calls v_oneB v_twoB v_mF v_oneF v_twoF v_mmF v_resF v_oldF x0 x1 x2 A) ([.ref a_mo, .int x0, .int x1, .int x2] : List Value).toArray s 0 0 A) (F0 m 159 ls []) := by
                      intro H locs hP hD hS ls hl
                      refine lv_aload_n hx hb dX12_quotientOfDecimals_159 rfl (lv_at hl 0 rfl) ?_
                      refine va_get (D := D) (ci := 12) (v := .ref a_old) (C := RX12) (T := TX12) (N := 26) hx hb hts in_X12 hown hK hP 0 rfl rfl 25 (by decide) q_2 (fun _ h9 => h9) rfl dX12_quotientOfDecimals_160 ?_
                      refine lv_iload hx hb dX12_quotientOfDecimals_163 (lv_at hl 4 rfl) ?_
                      refine lv_dup2_11 hx hb dX12_quotientOfDecimals_165 rfl rfl ?_
                      refine va_iald hx hb hK hP 6 0 rfl rfl (vin_dn (by decide) c_55 hI_53.1) dX12_quotientOfDecimals_166 ?_
                      refine lv_iconst (v := 1) hx hb dX12_quotientOfDecimals_167 (by decide) ?_
                      refine lv_iadd hx hb dX12_quotientOfDecimals_168 ?_
                      refine va_iast hx hb hK hP hD hS 6 0 rfl rfl (vin_dn (by decide) c_55 hI_53.1) dX12_quotientOfDecimals_169 (fun H locs hP hD hS => ?_)
                      obtain ⟨f_169, ef_169⟩ : ∃ z : Nat → Int32, z = upd w_102.2.2.1 (w_53.2.2.2 : Int32).toNatClampNeg (((w_102.2.2.1 (w_53.2.2.2 : Int32).toNatClampNeg) + 1)) := ⟨_, rfl⟩
                      have hP : va_P D vwCl (wX12_quotientOfDecimals cI cB a_mo a_mem a_mks a_mr a_cnt a_wd a_one a_two a_mmade a_mrest a_old v_thrown v_mask v_key v_wait v_problem v_code v_length v_cond v_masks v_addr v_mwanted v_wrong v_after v_calls v_oneB v_twoB v_mF v_oneF v_twoF u_126 g_132.1 (upd w_102.2.2.1 (w_53.2.2.2 : Int32).toNatClampNeg (((w_102.2.2.1 (w_53.2.2.2 : Int32).toNatClampNeg) + 1)))) H := hP
                      have hD : va_D A (wX12_quotientOfDecimals cI cB a_mo a_mem a_mks a_mr a_cnt a_wd a_one a_two a_mmade a_mrest a_old v_thrown v_mask v_key v_wait v_problem v_code v_length v_cond v_masks v_addr v_mwanted v_wrong v_after v_calls v_oneB v_twoB v_mF v_oneF v_twoF u_126 g_132.1 (upd w_102.2.2.1 (w_53.2.2.2 : Int32).toNatClampNeg (((w_102.2.2.1 (w_53.2.2.2 : Int32).toNatClampNeg) + 1)))) := hD
                      rw [← ef_169] at hP hD
                      refine lv_goto (tgt := 102) hx hb dX12_quotientOfDecimals_170 (by decide) ?_
                      exact ih (u_126, g_132.1, f_169, g_132.2) (Nat.lt_of_lt_of_le (qd_less h2 hI9 er_4 c_7 er_110 c_113 eu_126 eg_132) (Nat.le_of_lt_succ hm9)) (qd_sub h2 hI9 eu_126 eg_132) (by rw [← hL9]; subst ef_169; simp only [LX12_quotientOfDecimals_102, ← er_110, ← eu_126, ← eg_132]; (try simp only [if_neg c_113])) _ _ hP hD hS ls (lv_sub hl [0, 1, 2, 3, 4, 5] rfl)
                    have lp_132 : ∀ (n9 : Nat) (w_132 : ((Nat → Int32) × Int32)), msU 80 w_132.2 < n9 → 0 ≤ w_132.2 → LX12_quotientOfDecimals_132 u_126 n9 w_132 = g_132 → ∀ (H : Heap) (locs : List Loc), va_P D vwCl (wX12_quotientOfDecimals cI cB a_mo a_mem a_mks a_mr a_cnt a_wd a_one a_two a_mmade a_mrest a_old v_thrown v_mask v_key v_wait v_problem v_code v_length v_cond v_masks v_addr v_mwanted v_wrong v_after v_calls v_oneB v_twoB v_mF v_oneF v_twoF u_126 w_132.1 w_102.2.2.1) H → va_D A (wX12_quotientOfDecimals cI cB a_mo a_mem a_mks a_mr a_cnt a_wd a_one a_two a_mmade a_mrest a_old v_thrown v_mask v_key v_wait v_problem v_code v_length v_cond v_masks v_addr v_mwanted v_wrong v_after v_calls v_oneB v_twoB v_mF v_oneF v_twoF u_126 w_132.1 w_102.2.2.1) → va_S A s.heap H locs → ∀ (ls : Array Slot), lv_has ls 7 [(0, .ref a_mo), (1, .int x0), (2, .int x1), (3, .int x2), (4, .int w_53.2.2.2), (5, .int w_132.2)] → W p l e rmX12_quotientOfDecimals s m ([.ref a_mo, .int x0, .int x1, .int x2] : List Value).toArray below meth c H locs 0 0 (MQ below (qX12_quotientOfDecimals D cI cB a_mo a_mem a_mks a_mr a_cnt a_wd a_one a_two a_mmade a_mrest a_old v_thrown v_mask v_key v_wait v_problem v_code v_length v_cond v_masks v_addr v_mwanted v_wrong v_after v_calls v_oneB v_twoB v_mF v_oneF v_twoF v_mmF v_resF v_oldF x0 x1 x2 A) ([.ref a_mo, .int x0, .int x1, .int x2] : List Value).toArray s 0 0 A) (F0 m 132 ls []) := by
                      intro n9
                      induction n9 with
                      | zero => intro w_132 hm9; exact absurd hm9 (Nat.not_lt_zero _)
                      | succ n9 ih =>
                        intro w_132 hm9 hI9 hL9 H locs hP hD hS ls hl
                        have hI_132 := hI9
                        refine lv_iload hx hb dX12_quotientOfDecimals_132 (lv_at hl 5 rfl) ?_
                        refine lv_bipush (v := 80) hx hb dX12_quotientOfDecimals_134 (by decide) ?_
                        refine lv_icmp_ge (tgt := 159) hx hb dX12_quotientOfDecimals_136 (by decide) (fun c_136 => ?_) (fun c_136 => ?_)
                        · skip
                          have hg9 : (w_132.1, w_132.2) = g_132 := by rw [← hL9]; simp only [LX12_quotientOfDecimals_132]; (try simp only [if_pos c_136])
                          subst hg9
                          exact K_132_0 _ _ hP hD hS ls (lv_sub hl [0, 1, 2, 3, 4, 5] rfl)
                        · skip
                          refine lv_aload_n hx hb dX12_quotientOfDecimals_139 rfl (lv_at hl 0 rfl) ?_
                          refine va_get (D := D) (ci := 12) (v := .ref a_mrest) (C := RX12) (T := TX12) (N := 26) hx hb hts in_X12 hown hK hP 0 rfl rfl 24 (by decide) q_1 (fun _ h9 => h9) rfl dX12_quotientOfDecimals_140 ?_
                          refine lv_iload hx hb dX12_quotientOfDecimals_143 (lv_at hl 5 rfl) ?_
                          refine lv_aload_n hx hb dX12_quotientOfDecimals_145 rfl (lv_at hl 0 rfl) ?_
                          refine va_get (D := D) (ci := 12) (v := .ref a_mmade) (C := RX12) (T := TX12) (N := 26) hx hb hts in_X12 hown hK hP 0 rfl rfl 23 (by decide) q_4 (fun _ h9 => h9) rfl dX12_quotientOfDecimals_146 ?_
                          refine lv_iload hx hb dX12_quotientOfDecimals_149 (lv_at hl 5 rfl) ?_
                          refine va_iald hx hb hK hP 4 0 rfl rfl (by first | with_reducible assumption | exact vin_of (b := 80) (by decide) (by with_reducible assumption) (by with_reducible assumption) | exact vin_of (b := 80) (by decide) (Int32.not_lt.mp (by with_reducible assumption)) (by with_reducible assumption) | exact vin_dn (by decide) (by with_reducible assumption) hI9) dX12_quotientOfDecimals_151 ?_
                          refine va_iast hx hb hK hP hD hS 5 0 rfl rfl (by first | with_reducible assumption | exact vin_of (b := 80) (by decide) (by with_reducible assumption) (by with_reducible assumption) | exact vin_of (b := 80) (by decide) (Int32.not_lt.mp (by with_reducible assumption)) (by with_reducible assumption) | exact vin_dn (by decide) (by with_reducible assumption) hI9) dX12_quotientOfDecimals_152 (fun H locs hP hD hS => ?_)
                          obtain ⟨f_152, ef_152⟩ : ∃ z : Nat → Int32, z = upd w_132.1 (w_132.2 : Int32).toNatClampNeg ((u_126 (w_132.2 : Int32).toNatClampNeg)) := ⟨_, rfl⟩
                          have hP : va_P D vwCl (wX12_quotientOfDecimals cI cB a_mo a_mem a_mks a_mr a_cnt a_wd a_one a_two a_mmade a_mrest a_old v_thrown v_mask v_key v_wait v_problem v_code v_length v_cond v_masks v_addr v_mwanted v_wrong v_after v_calls v_oneB v_twoB v_mF v_oneF v_twoF u_126 (upd w_132.1 (w_132.2 : Int32).toNatClampNeg ((u_126 (w_132.2 : Int32).toNatClampNeg))) w_102.2.2.1) H := hP
                          have hD : va_D A (wX12_quotientOfDecimals cI cB a_mo a_mem a_mks a_mr a_cnt a_wd a_one a_two a_mmade a_mrest a_old v_thrown v_mask v_key v_wait v_problem v_code v_length v_cond v_masks v_addr v_mwanted v_wrong v_after v_calls v_oneB v_twoB v_mF v_oneF v_twoF u_126 (upd w_132.1 (w_132.2 : Int32).toNatClampNeg ((u_126 (w_132.2 : Int32).toNatClampNeg))) w_102.2.2.1) := hD
                          rw [← ef_152] at hP hD
                          obtain ⟨x_153, ex_153⟩ : ∃ z : Int32, z = w_132.2 + 1 := ⟨_, rfl⟩
                          refine lv_iinc (v := x_153) (lv' := [(5, .int x_153), (0, .ref a_mo), (1, .int x0), (2, .int x1), (3, .int x2), (4, .int w_53.2.2.2)]) hx hb dX12_quotientOfDecimals_153 hl (k := 5) rfl (by rw [ex_153]; rfl) (by decide) rfl (fun ls hl => ?_)
                          refine lv_goto (tgt := 132) hx hb dX12_quotientOfDecimals_156 (by decide) ?_
                          exact ih (f_152, x_153) (by subst ex_153; subst ef_152;  exact Nat.lt_of_lt_of_le (ms_up c_136) (Nat.le_of_lt_succ hm9)) (by subst ex_153; subst ef_152;  exact nn_up hI9 c_136) (by rw [← hL9]; subst ex_153; subst ef_152; simp only [LX12_quotientOfDecimals_132]; (try simp only [if_neg c_136])) _ _ hP hD hS ls (lv_sub hl [1, 2, 3, 4, 5, 0] rfl)
                    exact lp_132 (msU 80 0 + 1) (w_102.2.1, 0) (Nat.lt_succ_self _) (by show (0 : Int32) ≤ 0; decide) eg_132.symm _ _ hP hD hS ls (lv_sub hl [1, 2, 3, 4, 5, 0] rfl)
              exact lp_102 (val f_101 + 1) (w_53.1, f_101, w_53.2.2.1, g_62.2) (Nat.lt_succ_self _) (qd_shift h1 hI_53.1 c_55 hI_53.2 eg_62 ef_101) eg_102.symm _ _ hP hD hS ls (lv_sub hl [0, 1, 2, 3, 4, 5] rfl)
            have lp_62 : ∀ (n9 : Nat) (w_62 : ((Nat → Int32) × Int32)), msD w_62.2 < n9 → w_62.2 ≤ 79 → LX12_quotientOfDecimals_62  n9 w_62 = g_62 → ∀ (H : Heap) (locs : List Loc), va_P D vwCl (wX12_quotientOfDecimals cI cB a_mo a_mem a_mks a_mr a_cnt a_wd a_one a_two a_mmade a_mrest a_old v_thrown v_mask v_key v_wait v_problem v_code v_length v_cond v_masks v_addr v_mwanted v_wrong v_after v_calls v_oneB v_twoB v_mF v_oneF v_twoF w_53.1 w_62.1 w_53.2.2.1) H → va_D A (wX12_quotientOfDecimals cI cB a_mo a_mem a_mks a_mr a_cnt a_wd a_one a_two a_mmade a_mrest a_old v_thrown v_mask v_key v_wait v_problem v_code v_length v_cond v_masks v_addr v_mwanted v_wrong v_after v_calls v_oneB v_twoB v_mF v_oneF v_twoF w_53.1 w_62.1 w_53.2.2.1) → va_S A s.heap H locs → ∀ (ls : Array Slot), lv_has ls 7 [(0, .ref a_mo), (1, .int x0), (2, .int x1), (3, .int x2), (4, .int w_53.2.2.2), (5, .int w_62.2)] → W p l e rmX12_quotientOfDecimals s m ([.ref a_mo, .int x0, .int x1, .int x2] : List Value).toArray below meth c H locs 0 0 (MQ below (qX12_quotientOfDecimals D cI cB a_mo a_mem a_mks a_mr a_cnt a_wd a_one a_two a_mmade a_mrest a_old v_thrown v_mask v_key v_wait v_problem v_code v_length v_cond v_masks v_addr v_mwanted v_wrong v_after v_calls v_oneB v_twoB v_mF v_oneF v_twoF v_mmF v_resF v_oldF x0 x1 x2 A) ([.ref a_mo, .int x0, .int x1, .int x2] : List Value).toArray s 0 0 A) (F0 m 62 ls []) := by
              intro n9
              induction n9 with
              | zero => intro w_62 hm9; exact absurd hm9 (Nat.not_lt_zero _)
              | succ n9 ih =>
                intro w_62 hm9 hI9 hL9 H locs hP hD hS ls hl
                have hI_62 := hI9
                refine lv_iload hx hb dX12_quotientOfDecimals_62 (lv_at hl 5 rfl) ?_
                refine lv_if_le (tgt := 89) hx hb dX12_quotientOfDecimals_64 (by decide) (fun c_64 => ?_) (fun c_64 => ?_)
                · skip
                  have hg9 : (w_62.1, w_62.2) = g_62 := by rw [← hL9]; simp only [LX12_quotientOfDecimals_62]; (try simp only [if_pos c_64])
                  subst hg9
                  exact K_62_0 _ _ hP hD hS ls (lv_sub hl [0, 1, 2, 3, 4, 5] rfl)
                · skip
                  refine lv_aload_n hx hb dX12_quotientOfDecimals_67 rfl (lv_at hl 0 rfl) ?_
                  refine va_get (D := D) (ci := 12) (v := .ref a_mrest) (C := RX12) (T := TX12) (N := 26) hx hb hts in_X12 hown hK hP 0 rfl rfl 24 (by decide) q_1 (fun _ h9 => h9) rfl dX12_quotientOfDecimals_68 ?_
                  refine lv_iload hx hb dX12_quotientOfDecimals_71 (lv_at hl 5 rfl) ?_
                  refine lv_aload_n hx hb dX12_quotientOfDecimals_73 rfl (lv_at hl 0 rfl) ?_
                  refine va_get (D := D) (ci := 12) (v := .ref a_mrest) (C := RX12) (T := TX12) (N := 26) hx hb hts in_X12 hown hK hP 0 rfl rfl 24 (by decide) q_1 (fun _ h9 => h9) rfl dX12_quotientOfDecimals_74 ?_
                  refine lv_iload hx hb dX12_quotientOfDecimals_77 (lv_at hl 5 rfl) ?_
                  refine lv_iconst (v := 1) hx hb dX12_quotientOfDecimals_79 (by decide) ?_
                  refine lv_isub hx hb dX12_quotientOfDecimals_80 ?_
                  refine va_iald hx hb hK hP 5 0 rfl rfl (vin_dn1 hI9 c_64).2 dX12_quotientOfDecimals_81 ?_
                  refine va_iast hx hb hK hP hD hS 5 0 rfl rfl (vin_dn1 hI9 c_64).1 dX12_quotientOfDecimals_82 (fun H locs hP hD hS => ?_)
                  obtain ⟨f_82, ef_82⟩ : ∃ z : Nat → Int32, z = upd w_62.1 (w_62.2 : Int32).toNatClampNeg ((w_62.1 ((w_62.2 - 1) : Int32).toNatClampNeg)) := ⟨_, rfl⟩
                  have hP : va_P D vwCl (wX12_quotientOfDecimals cI cB a_mo a_mem a_mks a_mr a_cnt a_wd a_one a_two a_mmade a_mrest a_old v_thrown v_mask v_key v_wait v_problem v_code v_length v_cond v_masks v_addr v_mwanted v_wrong v_after v_calls v_oneB v_twoB v_mF v_oneF v_twoF w_53.1 (upd w_62.1 (w_62.2 : Int32).toNatClampNeg ((w_62.1 ((w_62.2 - 1) : Int32).toNatClampNeg))) w_53.2.2.1) H := hP
                  have hD : va_D A (wX12_quotientOfDecimals cI cB a_mo a_mem a_mks a_mr a_cnt a_wd a_one a_two a_mmade a_mrest a_old v_thrown v_mask v_key v_wait v_problem v_code v_length v_cond v_masks v_addr v_mwanted v_wrong v_after v_calls v_oneB v_twoB v_mF v_oneF v_twoF w_53.1 (upd w_62.1 (w_62.2 : Int32).toNatClampNeg ((w_62.1 ((w_62.2 - 1) : Int32).toNatClampNeg))) w_53.2.2.1) := hD
                  rw [← ef_82] at hP hD
                  obtain ⟨x_83, ex_83⟩ : ∃ z : Int32, z = w_62.2 + (-1) := ⟨_, rfl⟩
                  refine lv_iinc (v := x_83) (lv' := [(5, .int x_83), (0, .ref a_mo), (1, .int x0), (2, .int x1), (3, .int x2), (4, .int w_53.2.2.2)]) hx hb dX12_quotientOfDecimals_83 hl (k := 5) rfl (by rw [ex_83]; rfl) (by decide) rfl (fun ls hl => ?_)
                  refine lv_goto (tgt := 62) hx hb dX12_quotientOfDecimals_86 (by decide) ?_
                  exact ih (f_82, x_83) (by subst ex_83; subst ef_82; exact Nat.lt_of_lt_of_le (ms_dn1 c_64) (Nat.le_of_lt_succ hm9)) (by subst ex_83; subst ef_82; exact le_dn1 hI9 c_64) (by rw [← hL9]; subst ex_83; subst ef_82; simp only [LX12_quotientOfDecimals_62]; (try simp only [if_neg c_64])) _ _ hP hD hS ls (lv_sub hl [1, 2, 3, 4, 5, 0] rfl)
            exact lp_62 (msD 79 + 1) (w_53.2.1, 79) (Nat.lt_succ_self _) (by show (79 : Int32) ≤ 79; decide) eg_62.symm _ _ hP hD hS ls (lv_sub hl [1, 2, 3, 4, 5, 0] rfl)
      exact lp_53 (msD 40 + 1) (v_mmF, g_20.1, g_20.2.1, 40) (Nat.lt_succ_self _) (⟨(by show (40 : Int32) ≤ 40; decide), (by show dOk g_20.1; exact qd_zero eg_20)⟩) eg_53.symm _ _ hP hD hS ls (lv_sub hl [1, 2, 3, 4, 0] rfl)
    have lp_20 : ∀ (n9 : Nat) (w_20 : ((Nat → Int32) × (Nat → Int32) × Int32)), msU 80 w_20.2.2 < n9 → 0 ≤ w_20.2.2 → LX12_quotientOfDecimals_20  n9 w_20 = g_20 → ∀ (H : Heap) (locs : List Loc), va_P D vwCl (wX12_quotientOfDecimals cI cB a_mo a_mem a_mks a_mr a_cnt a_wd a_one a_two a_mmade a_mrest a_old v_thrown v_mask v_key v_wait v_problem v_code v_length v_cond v_masks v_addr v_mwanted v_wrong v_after v_calls v_oneB v_twoB v_mF v_oneF v_twoF v_mmF w_20.1 w_20.2.1) H → va_D A (wX12_quotientOfDecimals cI cB a_mo a_mem a_mks a_mr a_cnt a_wd a_one a_two a_mmade a_mrest a_old v_thrown v_mask v_key v_wait v_problem v_code v_length v_cond v_masks v_addr v_mwanted v_wrong v_after v_calls v_oneB v_twoB v_mF v_oneF v_twoF v_mmF w_20.1 w_20.2.1) → va_S A s.heap H locs → ∀ (ls : Array Slot), lv_has ls 7 [(0, .ref a_mo), (1, .int x0), (2, .int x1), (3, .int x2), (4, .int w_20.2.2)] → W p l e rmX12_quotientOfDecimals s m ([.ref a_mo, .int x0, .int x1, .int x2] : List Value).toArray below meth c H locs 0 0 (MQ below (qX12_quotientOfDecimals D cI cB a_mo a_mem a_mks a_mr a_cnt a_wd a_one a_two a_mmade a_mrest a_old v_thrown v_mask v_key v_wait v_problem v_code v_length v_cond v_masks v_addr v_mwanted v_wrong v_after v_calls v_oneB v_twoB v_mF v_oneF v_twoF v_mmF v_resF v_oldF x0 x1 x2 A) ([.ref a_mo, .int x0, .int x1, .int x2] : List Value).toArray s 0 0 A) (F0 m 20 ls []) := by
      intro n9
      induction n9 with
      | zero => intro w_20 hm9; exact absurd hm9 (Nat.not_lt_zero _)
      | succ n9 ih =>
        intro w_20 hm9 hI9 hL9 H locs hP hD hS ls hl
        have hI_20 := hI9
        refine lv_iload hx hb dX12_quotientOfDecimals_20 (lv_at hl 4 rfl) ?_
        refine lv_bipush (v := 80) hx hb dX12_quotientOfDecimals_22 (by decide) ?_
        refine lv_icmp_ge (tgt := 49) hx hb dX12_quotientOfDecimals_24 (by decide) (fun c_24 => ?_) (fun c_24 => ?_)
        · skip
          have hg9 : (w_20.1, w_20.2.1, w_20.2.2) = g_20 := by rw [← hL9]; simp only [LX12_quotientOfDecimals_20]; (try simp only [if_pos c_24])
          subst hg9
          exact K_20_0 _ _ hP hD hS ls (lv_sub hl [0, 1, 2, 3, 4] rfl)
        · skip
          refine lv_aload_n hx hb dX12_quotientOfDecimals_27 rfl (lv_at hl 0 rfl) ?_
          refine va_get (D := D) (ci := 12) (v := .ref a_mrest) (C := RX12) (T := TX12) (N := 26) hx hb hts in_X12 hown hK hP 0 rfl rfl 24 (by decide) q_1 (fun _ h9 => h9) rfl dX12_quotientOfDecimals_28 ?_
          refine lv_iload hx hb dX12_quotientOfDecimals_31 (lv_at hl 4 rfl) ?_
          refine lv_iconst (v := 0) hx hb dX12_quotientOfDecimals_33 (by decide) ?_
          refine va_iast hx hb hK hP hD hS 5 0 rfl rfl (by first | with_reducible assumption | exact vin_of (b := 80) (by decide) (by with_reducible assumption) (by with_reducible assumption) | exact vin_of (b := 80) (by decide) (Int32.not_lt.mp (by with_reducible assumption)) (by with_reducible assumption) | exact vin_dn (by decide) (by with_reducible assumption) hI9) dX12_quotientOfDecimals_34 (fun H locs hP hD hS => ?_)
          obtain ⟨f_34, ef_34⟩ : ∃ z : Nat → Int32, z = upd w_20.1 (w_20.2.2 : Int32).toNatClampNeg (0) := ⟨_, rfl⟩
          have hP : va_P D vwCl (wX12_quotientOfDecimals cI cB a_mo a_mem a_mks a_mr a_cnt a_wd a_one a_two a_mmade a_mrest a_old v_thrown v_mask v_key v_wait v_problem v_code v_length v_cond v_masks v_addr v_mwanted v_wrong v_after v_calls v_oneB v_twoB v_mF v_oneF v_twoF v_mmF (upd w_20.1 (w_20.2.2 : Int32).toNatClampNeg (0)) w_20.2.1) H := hP
          have hD : va_D A (wX12_quotientOfDecimals cI cB a_mo a_mem a_mks a_mr a_cnt a_wd a_one a_two a_mmade a_mrest a_old v_thrown v_mask v_key v_wait v_problem v_code v_length v_cond v_masks v_addr v_mwanted v_wrong v_after v_calls v_oneB v_twoB v_mF v_oneF v_twoF v_mmF (upd w_20.1 (w_20.2.2 : Int32).toNatClampNeg (0)) w_20.2.1) := hD
          rw [← ef_34] at hP hD
          refine lv_aload_n hx hb dX12_quotientOfDecimals_35 rfl (lv_at hl 0 rfl) ?_
          refine va_get (D := D) (ci := 12) (v := .ref a_old) (C := RX12) (T := TX12) (N := 26) hx hb hts in_X12 hown hK hP 0 rfl rfl 25 (by decide) q_2 (fun _ h9 => h9) rfl dX12_quotientOfDecimals_36 ?_
          refine lv_iload hx hb dX12_quotientOfDecimals_39 (lv_at hl 4 rfl) ?_
          refine lv_iconst (v := 0) hx hb dX12_quotientOfDecimals_41 (by decide) ?_
          refine va_iast hx hb hK hP hD hS 6 0 rfl rfl (vin_lt (b := 80) (B := 80) (by decide) (by decide) hI9 c_24) dX12_quotientOfDecimals_42 (fun H locs hP hD hS => ?_)
          obtain ⟨f_42, ef_42⟩ : ∃ z : Nat → Int32, z = upd w_20.2.1 (w_20.2.2 : Int32).toNatClampNeg (0) := ⟨_, rfl⟩
          have hP : va_P D vwCl (wX12_quotientOfDecimals cI cB a_mo a_mem a_mks a_mr a_cnt a_wd a_one a_two a_mmade a_mrest a_old v_thrown v_mask v_key v_wait v_problem v_code v_length v_cond v_masks v_addr v_mwanted v_wrong v_after v_calls v_oneB v_twoB v_mF v_oneF v_twoF v_mmF f_34 (upd w_20.2.1 (w_20.2.2 : Int32).toNatClampNeg (0))) H := hP
          have hD : va_D A (wX12_quotientOfDecimals cI cB a_mo a_mem a_mks a_mr a_cnt a_wd a_one a_two a_mmade a_mrest a_old v_thrown v_mask v_key v_wait v_problem v_code v_length v_cond v_masks v_addr v_mwanted v_wrong v_after v_calls v_oneB v_twoB v_mF v_oneF v_twoF v_mmF f_34 (upd w_20.2.1 (w_20.2.2 : Int32).toNatClampNeg (0))) := hD
          rw [← ef_42] at hP hD
          obtain ⟨x_43, ex_43⟩ : ∃ z : Int32, z = w_20.2.2 + 1 := ⟨_, rfl⟩
          refine lv_iinc (v := x_43) (lv' := [(4, .int x_43), (0, .ref a_mo), (1, .int x0), (2, .int x1), (3, .int x2)]) hx hb dX12_quotientOfDecimals_43 hl (k := 4) rfl (by rw [ex_43]; rfl) (by decide) rfl (fun ls hl => ?_)
          refine lv_goto (tgt := 20) hx hb dX12_quotientOfDecimals_46 (by decide) ?_
          exact ih (f_34, f_42, x_43) (by subst ex_43; subst ef_42; subst ef_34;  exact Nat.lt_of_lt_of_le (ms_up c_24) (Nat.le_of_lt_succ hm9)) (by subst ex_43; subst ef_42; subst ef_34;  exact nn_up hI9 c_24) (by rw [← hL9]; subst ex_43; subst ef_42; subst ef_34; simp only [LX12_quotientOfDecimals_20]; (try simp only [if_neg c_24])) _ _ hP hD hS ls (lv_sub hl [1, 2, 3, 4, 0] rfl)
    exact lp_20 (msU 80 0 + 1) (v_resF, v_oldF, 0) (Nat.lt_succ_self _) (by show (0 : Int32) ≤ 0; decide) eg_20.symm _ _ hP hD hS ls (lv_sub hl [1, 2, 3, 4, 0] rfl)
  · skip
    refine lv_aload_n hx hb dX12_quotientOfDecimals_10 rfl (lv_at hl 0 rfl) ?_
    refine lv_bipush (v := 11) hx hb dX12_quotientOfDecimals_11 (by decide) ?_
    have hPc : va_P D vwCl (wX12_meet cI cB a_mo a_mem a_mks a_mr a_cnt a_wd a_one a_two a_mmade a_mrest a_old v_thrown v_mask v_key v_wait v_problem v_code v_length v_cond v_masks v_addr v_mwanted v_wrong v_after v_calls v_oneB v_twoB) H := hP.sub [0] rfl
    have hDc : va_D A (wX12_meet cI cB a_mo a_mem a_mks a_mr a_cnt a_wd a_one a_two a_mmade a_mrest a_old v_thrown v_mask v_key v_wait v_problem v_code v_length v_cond v_masks v_addr v_mwanted v_wrong v_after v_calls v_oneB v_twoB) := hD.sub [0] (by decide) rfl
    have hFc := va_free (wc := (wX12_meet cI cB a_mo a_mem a_mks a_mr a_cnt a_wd a_one a_two a_mmade a_mrest a_old v_thrown v_mask v_key v_wait v_problem v_code v_length v_cond v_masks v_addr v_mwanted v_wrong v_after v_calls v_oneB v_twoB)) hD hS hA [0] rfl
    refine va_callv (va_runV (As := [.int 11]) (rest := []) ⟨hx, hb, hml, hown, hts⟩ (kX12_meet l D cI cB a_mo a_mem a_mks a_mr a_cnt a_wd a_one a_two a_mmade a_mrest a_old H.size v_thrown v_mask v_key v_wait v_problem v_code v_length v_cond v_masks v_addr v_mwanted v_wrong v_after v_calls v_oneB v_twoB 11) (cwV 1 hts (gd_V wd_838 wd_839 wd_840 wd_807 wd_835) rfl rfl rfl hdX12_meet ⟨Nat.le_of_ble_eq_true rfl, Nat.le_of_ble_eq_true rfl⟩) (preV_std (ci := 12) (q0 := 0) hPc hK hDc hNW rfl rfl) rfl rfl hl.1 rfl (lv_room (Nat.le_of_ble_eq_true rfl)) dX12_quotientOfDecimals_13 ⟨Nat.zero_le _, Nat.zero_le _⟩) hS (fun q _ h => hFc q h) hFc (fun u_13 t9 H1 locs ht9 hvm9 hw9 hB9 hz9 hk9 hS => ?_)
    have eu_13 : u_13 = fX12_meet 11 v_wrong := hw9
    obtain ⟨hP, hD⟩ := back_std (w1 := (wX12_meet cI cB a_mo a_mem a_mks a_mr a_cnt a_wd a_one a_two a_mmade a_mrest a_old v_thrown v_mask v_key v_wait v_problem v_code v_length v_cond v_masks v_addr v_mwanted u_13 v_after v_calls v_oneB v_twoB)) (w2 := (wX12_quotientOfDecimals cI cB a_mo a_mem a_mks a_mr a_cnt a_wd a_one a_two a_mmade a_mrest a_old v_thrown v_mask v_key v_wait v_problem v_code v_length v_cond v_masks v_addr v_mwanted u_13 v_after v_calls v_oneB v_twoB v_mF v_oneF v_twoF v_mmF v_resF v_oldF)) (wr := [(a_mem, .inl (cI, 8192, .inl v_mF)), (a_one, .inl (cI, 80, .inl v_oneF)), (a_two, .inl (cI, 80, .inl v_twoF)), (a_mmade, .inl (cI, 80, .inl v_mmF)), (a_mrest, .inl (cI, 80, .inl v_resF)), (a_old, .inl (cI, 512, .inl v_oldF))]) hP hD [0] [1, 2, 3, 4, 5, 6] [6, 0, 1, 2, 3, 4, 5] rfl rfl (by decide) (by decide) hk9 hFc hB9 ht9 (by decide) rfl
    clear hB9 hk9 hz9 hvm9 ht9 hFc hPc hDc
    generalize H1 = H at hP hS ⊢
    have hf9 : (u_13, v_mF, v_mmF, v_resF, v_oldF) = fX12_quotientOfDecimals x0 x1 x2 v_wrong v_oneB v_twoB v_mF v_oneF v_twoF v_mmF v_resF v_oldF := by simp only [fX12_quotientOfDecimals, ← er_4, ← eu_13]; (try simp only [if_neg c_7])
    exact W.vret hx hb hr (fun t9 ht9 hW9 => ⟨⟨(u_13, v_mF, v_mmF, v_resF, v_oldF), rfl, hf9, ⟨by rw [ht9]; exact hP, va_K.moved hW9.alike hK, hD⟩⟩, hS.F ht9⟩) hS.2.2 dX12_quotientOfDecimals_16
theorem hdX12_quotientOfDecimals : yX12_quotientOfDecimals.cls = RX12 ∧ yX12_quotientOfDecimals.cls ≠ "java/lang/invoke/MethodHandle" ∧ yX12_quotientOfDecimals.cls ≠ "java/lang/invoke/VarHandle" ∧ (parseMethodDescriptor yX12_quotientOfDecimals.desc).map (fun d => d.parameters.length) = some 3 := by decide +kernel
noncomputable def LX12_decimals_155 (x0 : Int32) (x2 : Int32) (x3 : Int32) (v_mF : (Nat → Int32)) : Nat → (Int32 × Int32) → (Int32 × Int32)
  | 0, w_155 => w_155
  | n9 + 1, w_155 =>
    if x2 < w_155.2 then ((w_155.1, w_155.2)) else (if x0 = 252 then (let m_187 : Int32 := (if (v_mF ((x3 + w_155.2) : Int32).toNatClampNeg) = 0 then (w_155.1) else (let u_184 := fX12_meet 7 w_155.1; u_184)); let x_187 := w_155.2 + 1; LX12_decimals_155 x0 x2 x3 v_mF n9 (m_187, x_187)) else ((w_155.1, w_155.2)))
noncomputable def LX12_decimals_211 (m_152 : (Int32 × Int32 × Int32 × (Nat → Int32) × (Nat → Int32))) : Nat → ((Nat → Int32) × Int32) → ((Nat → Int32) × Int32)
  | 0, w_211 => w_211
  | n9 + 1, w_211 =>
    if 80 ≤ w_211.2 then ((w_211.1, w_211.2)) else (let f_231 := upd w_211.1 (w_211.2 : Int32).toNatClampNeg ((m_152.2.2.2.2 (w_211.2 : Int32).toNatClampNeg)); let x_232 := w_211.2 + 1; LX12_decimals_211 m_152 n9 (f_231, x_232))
noncomputable def fX12_decimals (x0 : Int32) (x1 : Int32) (x2 : Int32) (x3 : Int32) (x4 : Int32) (v_key : Int32) (v_cond : Int32) (v_masks : Int32) (v_wrong : Int32) (v_after : Int32) (v_oneB : Int32) (v_twoB : Int32) (v_mF : (Nat → Int32)) (v_mkF : (Nat → Int32)) (v_oneF : (Nat → Int32)) (v_twoF : (Nat → Int32)) (v_mmF : (Nat → Int32)) (v_resF : (Nat → Int32)) (v_oldF : (Nat → Int32)) : (Int32 × Int32 × Int32 × Int32 × Int32 × (Nat → Int32) × (Nat → Int32) × (Nat → Int32) × (Nat → Int32) × (Nat → Int32) × (Nat → Int32)) :=
  let m_19 : Int32 := (if x0 = 252 then (1) else (if x0 = 253 then (1) else (0)))
  let m_39 : Int32 := (if x0 = 249 then (0) else (1))
  let u_39 := fX12_look x3 (x1 + 1) m_39 v_key v_wrong v_mkF
  let u_49 := fX12_look x4 (x2 + 1) 0 v_key u_39 v_mkF
  let m_74 : Int32 := (if m_19 = 0 then (u_49) else (if 7 < x2 then (let u_71 := fX12_meet 6 u_49; u_71) else (if x2 < x1 then (u_49) else (let u_71 := fX12_meet 6 u_49; u_71))))
  if m_74 ≤ 0 then (let u_89 := fX12_takeDecimal x4 (x2 + 1) 0 m_74 v_oneB v_twoB v_mF v_oneF v_twoF; let m_152 : (Int32 × Int32 × Int32 × (Nat → Int32) × (Nat → Int32)) := (if x0 = 248 then ((u_89.1, u_89.2.1, u_89.2.2.1, u_89.2.2.2.1, u_89.2.2.2.2)) else (let m_111 : Int32 := (if u_89.1 ≤ 0 then (0) else (1)); let u_131 := fX12_takeDecimal x3 (x1 + 1) 1 0 u_89.2.1 u_89.2.2.1 v_mF u_89.2.2.2.1 u_89.2.2.2.2; let m_149 : Int32 := (if m_111 = 0 then (u_131.1) else (u_89.1)); (m_149, u_131.2.1, u_131.2.2.1, u_131.2.2.2.1, u_131.2.2.2.2))); let g_155 := LX12_decimals_155 x0 x2 x3 v_mF (msU (x2 + 1) 0 + 1) (m_152.1, 0); if g_155.1 ≤ 0 then (if x0 = 248 then (let g_211 := LX12_decimals_211 m_152 (msU 80 0 + 1) (v_mmF, 0); let u_248 := fX12_afterDecimal x3 (x1 + 1) m_152.2.2.1 v_cond v_masks v_after v_mF g_211.1; (u_248.1, g_155.1, u_248.2.1, m_152.2.1, m_152.2.2.1, u_248.2.2, m_152.2.2.2.1, m_152.2.2.2.2, g_211.1, v_resF, v_oldF)) else (if x0 = 252 then (let u_266 := fX12_productOfDecimals x3 x1 x2 m_152.2.1 m_152.2.2.1 v_mF m_152.2.2.2.1 m_152.2.2.2.2 v_mmF; (v_cond, g_155.1, v_after, m_152.2.1, m_152.2.2.1, u_266.1, m_152.2.2.2.1, m_152.2.2.2.2, u_266.2, v_resF, v_oldF)) else (if x0 = 253 then (let u_284 := fX12_quotientOfDecimals x3 x1 x2 g_155.1 m_152.2.1 m_152.2.2.1 v_mF m_152.2.2.2.1 m_152.2.2.2.2 v_mmF v_resF v_oldF; (v_cond, u_284.1, v_after, m_152.2.1, m_152.2.2.1, u_284.2.1, m_152.2.2.2.1, m_152.2.2.2.2, u_284.2.2.1, u_284.2.2.2.1, u_284.2.2.2.2)) else (let m_310 : Int32 := (if x0 = 251 then (1) else (if x0 = 249 then (1) else (0))); let m_322 : Int32 := (if x0 = 249 then (1) else (0)); let u_327 := fX12_sumOfDecimals m_310 m_322 x3 (x1 + 1) v_cond v_masks v_after m_152.2.1 m_152.2.2.1 v_mF m_152.2.2.2.1 m_152.2.2.2.2 v_mmF; (u_327.1, g_155.1, u_327.2.1, m_152.2.1, m_152.2.2.1, u_327.2.2.1, m_152.2.2.2.1, m_152.2.2.2.2, u_327.2.2.2, v_resF, v_oldF))))) else ((v_cond, g_155.1, v_after, m_152.2.1, m_152.2.2.1, v_mF, m_152.2.2.2.1, m_152.2.2.2.2, v_mmF, v_resF, v_oldF))) else ((v_cond, m_74, v_after, v_oneB, v_twoB, v_mF, v_oneF, v_twoF, v_mmF, v_resF, v_oldF))
/-! what the two decimals are, where nothing wrong was met -/
theorem dig_of {x d k : Int32} (hx : byI x) (e : d = if (k - k / 2 * 2) = 0 then (x >>> (4 &&& 31)) else (x &&& 15)) : 0 ≤ d.toInt ∧ d.toInt ≤ 15 := by
  rw [e]
  split
  · exact hi4 hx
  · exact lo4 x
theorem td_le {d : Int32} (h : 0 ≤ d.toInt ∧ d.toInt ≤ 15) (c : d ≤ 9) : dgI d := by
  have h1 := Int32.le_iff_toInt_le.mp c
  have k9 : (9 : Int32).toInt = 9 := by decide
  exact ⟨h.1, by omega⟩
theorem td78_step (a n x2 : Int32) (mF : Nat → Int32) (n9 : Nat) (w : Int32 × (Nat → Int32) × (Nat → Int32) × Int32) (d m : Int32) (ed : d = if (w.2.2.2 - w.2.2.2 / 2 * 2) = 0 then (mF (((a + n) - 1) - ((w.2.2.2 + 1) / 2)).toNatClampNeg >>> (4 &&& 31)) else (mF (((a + n) - 1) - ((w.2.2.2 + 1) / 2)).toNatClampNeg &&& 15)) (em : m = if d ≤ 9 then w.1 else fX12_meet 7 w.1) : LX12_takeDecimal_78 a n x2 mF (n9 + 1) w = if ((2 * n) - 1) ≤ w.2.2.2 then (w.1, w.2.1, w.2.2.1, w.2.2.2) else LX12_takeDecimal_78 a n x2 mF n9 (m, (if x2 = 0 then (w.2.1, upd w.2.2.1 w.2.2.2.toNatClampNeg d) else (upd w.2.1 w.2.2.2.toNatClampNeg d, w.2.2.1)).1, (if x2 = 0 then (w.2.1, upd w.2.2.1 w.2.2.2.toNatClampNeg d) else (upd w.2.1 w.2.2.2.toNatClampNeg d, w.2.2.1)).2, w.2.2.2 + 1) := by
  rw [em, ed]
  rfl
theorem td_m {d m w : Int32} (hw : 0 ≤ w) (em : m = if d ≤ 9 then w else fX12_meet 7 w) : 0 ≤ m ∧ (m = 0 → d ≤ 9 ∧ w = 0) := by
  by_cases c : d ≤ 9
  · rw [if_pos c] at em
    rw [em]
    exact ⟨hw, fun h => ⟨c, h⟩⟩
  · rw [if_neg c] at em
    rw [em]
    exact ⟨meet_nn (by decide) hw, fun h => absurd h (ne_meet (by decide) hw)⟩
theorem td78 {a n x2 : Int32} {mF : Nat → Int32} (hM : mOk mF) : ∀ (n9 : Nat) (w : Int32 × (Nat → Int32) × (Nat → Int32) × Int32), 0 ≤ w.1 → 0 ≤ (LX12_takeDecimal_78 a n x2 mF n9 w).1 ∧ ((LX12_takeDecimal_78 a n x2 mF n9 w).1 ≤ 0 → w.1 = 0 ∧ (x2 = 0 → (LX12_takeDecimal_78 a n x2 mF n9 w).2.1 = w.2.1 ∧ (dOk w.2.2.1 → dOk (LX12_takeDecimal_78 a n x2 mF n9 w).2.2.1)) ∧ (¬ x2 = 0 → (LX12_takeDecimal_78 a n x2 mF n9 w).2.2.1 = w.2.2.1 ∧ (dOk w.2.1 → dOk (LX12_takeDecimal_78 a n x2 mF n9 w).2.1)))
  | 0, _, h => ⟨h, fun h2 => ⟨zero_i h (nle_pos h2), fun _ => ⟨rfl, fun q => q⟩, fun _ => ⟨rfl, fun q => q⟩⟩⟩
  | n9 + 1, w, h => by
    obtain ⟨d, ed⟩ : ∃ d : Int32, d = if (w.2.2.2 - w.2.2.2 / 2 * 2) = 0 then (mF (((a + n) - 1) - ((w.2.2.2 + 1) / 2)).toNatClampNeg >>> (4 &&& 31)) else (mF (((a + n) - 1) - ((w.2.2.2 + 1) / 2)).toNatClampNeg &&& 15) := ⟨_, rfl⟩
    obtain ⟨m, em⟩ : ∃ m : Int32, m = if d ≤ 9 then w.1 else fX12_meet 7 w.1 := ⟨_, rfl⟩
    rw [td78_step a n x2 mF n9 w d m ed em]
    by_cases c : ((2 * n) - 1) ≤ w.2.2.2
    · rw [if_pos c]
      exact ⟨h, fun h2 => ⟨zero_i h (nle_pos h2), fun _ => ⟨rfl, fun q => q⟩, fun _ => ⟨rfl, fun q => q⟩⟩⟩
    rw [if_neg c]
    have hd := dig_of (hM _) ed
    obtain ⟨m1, m2⟩ := td_m h em
    by_cases c2 : x2 = 0
    · rw [if_pos c2]
      obtain ⟨i1, i2⟩ := td78 hM n9 (m, w.2.1, upd w.2.2.1 w.2.2.2.toNatClampNeg d, w.2.2.2 + 1) m1
      refine ⟨i1, fun h2 => ?_⟩
      obtain ⟨j1, j2, j3⟩ := i2 h2
      obtain ⟨k1, k2⟩ := m2 j1
      exact ⟨k2, fun _ => ⟨(j2 c2).1, fun q => (j2 c2).2 (dOk_upd q (td_le hd k1))⟩, fun c3 => absurd c2 c3⟩
    · rw [if_neg c2]
      obtain ⟨i1, i2⟩ := td78 hM n9 (m, upd w.2.1 w.2.2.2.toNatClampNeg d, w.2.2.1, w.2.2.2 + 1) m1
      refine ⟨i1, fun h2 => ?_⟩
      obtain ⟨j1, j2, j3⟩ := i2 h2
      obtain ⟨k1, k2⟩ := m2 j1
      exact ⟨k2, fun c3 => absurd c3 c2, fun _ => ⟨(j3 c2).1, fun q => (j3 c2).2 (dOk_upd q (td_le hd k1))⟩⟩
theorem td3_step (x2 : Int32) (n9 : Nat) (w : (Nat → Int32) × (Nat → Int32) × Int32) : LX12_takeDecimal_3 x2 (n9 + 1) w = if 80 ≤ w.2.2 then (w.1, w.2.1, w.2.2) else LX12_takeDecimal_3 x2 n9 ((if x2 = 0 then (w.1, upd w.2.1 w.2.2.toNatClampNeg 0) else (upd w.1 w.2.2.toNatClampNeg 0, w.2.1)).1, (if x2 = 0 then (w.1, upd w.2.1 w.2.2.toNatClampNeg 0) else (upd w.1 w.2.2.toNatClampNeg 0, w.2.1)).2, w.2.2 + 1) := rfl
theorem td3 {x2 : Int32} : ∀ (n9 i : Nat) (o t : Nat → Int32), i ≤ 80 → 80 - i < n9 → (x2 = 0 → (∀ j, j < i → t j = 0) → (LX12_takeDecimal_3 x2 n9 (o, t, nI i)).1 = o ∧ ∀ j, j < 80 → (LX12_takeDecimal_3 x2 n9 (o, t, nI i)).2.1 j = 0) ∧ (¬ x2 = 0 → (∀ j, j < i → o j = 0) → (LX12_takeDecimal_3 x2 n9 (o, t, nI i)).2.1 = t ∧ ∀ j, j < 80 → (LX12_takeDecimal_3 x2 n9 (o, t, nI i)).1 j = 0)
  | 0, _, _, _, _, h => absurd h (Nat.not_lt_zero _)
  | n9 + 1, i, o, t, hi, hm => by
    rw [td3_step]
    by_cases c : 80 ≤ nI i
    · rw [if_pos c]
      have := (i80 hi).1 c
      subst this
      exact ⟨fun _ h => ⟨rfl, h⟩, fun _ h => ⟨rfl, h⟩⟩
    have hlt := (i80 hi).2 c
    rw [if_neg c]
    have hc : (nI i).toNatClampNeg = i := nI_clamp (by omega)
    by_cases c2 : x2 = 0
    · rw [if_pos c2]
      show (x2 = 0 → (∀ j, j < i → t j = 0) → (LX12_takeDecimal_3 x2 n9 (o, upd t (nI i).toNatClampNeg 0, nI i + 1)).1 = o ∧ ∀ j, j < 80 → (LX12_takeDecimal_3 x2 n9 (o, upd t (nI i).toNatClampNeg 0, nI i + 1)).2.1 j = 0) ∧ _
      rw [nI_1, hc]
      refine ⟨fun _ h => (td3 n9 (i + 1) o (upd t i 0) (by omega) (by omega)).1 c2 (fun j hj => ?_), fun c3 => absurd c2 c3⟩
      by_cases ej : j = i
      · rw [ej, pk_us]
      · rw [pk_un ej]; exact h j (by omega)
    · rw [if_neg c2]
      refine ⟨fun c3 => absurd c3 c2, fun _ h => ?_⟩
      show (LX12_takeDecimal_3 x2 n9 (upd o (nI i).toNatClampNeg 0, t, nI i + 1)).2.1 = t ∧ ∀ j, j < 80 → (LX12_takeDecimal_3 x2 n9 (upd o (nI i).toNatClampNeg 0, t, nI i + 1)).1 j = 0
      rw [nI_1, hc]
      refine (td3 n9 (i + 1) (upd o i 0) t (by omega) (by omega)).2 c2 (fun j hj => ?_)
      by_cases ej : j = i
      · rw [ej, pk_us]
      · rw [pk_un ej]; exact h j (by omega)
theorem dOk_z {f : Nat → Int32} (h : ∀ j, j < 80 → f j = 0) : dOk f := fun j hj => by
  rw [h j hj]
  decide
theorem td_sgn {s m w : Int32} (hw : 0 ≤ w) (em : m = if 10 ≤ s then w else fX12_meet 7 w) : 0 ≤ m ∧ (m = 0 → w = 0) := by
  by_cases c : 10 ≤ s
  · rw [if_pos c] at em
    rw [em]
    exact ⟨hw, fun h => h⟩
  · rw [if_neg c] at em
    rw [em]
    exact ⟨meet_nn (by decide) hw, fun h => absurd h (ne_meet (by decide) hw)⟩
theorem td_end {a n x2 w oB tB : Int32} {mF oF tF : Nat → Int32} {u : Int32 × Int32 × Int32 × (Nat → Int32) × (Nat → Int32)} (hM : mOk mF) (hw : 0 ≤ w) (e : u = fX12_takeDecimal a n x2 w oB tB mF oF tF) : 0 ≤ u.1 ∧ (u.1 ≤ 0 → w = 0 ∧ (x2 = 0 → u.2.2.2.1 = oF ∧ dOk u.2.2.2.2) ∧ (¬ x2 = 0 → u.2.2.2.2 = tF ∧ dOk u.2.2.2.1)) := by
  obtain ⟨g3, e3⟩ : ∃ g, g = LX12_takeDecimal_3 x2 (msU 80 0 + 1) (oF, tF, 0) := ⟨_, rfl⟩
  have h3 := td3 (x2 := x2) (msU 80 0 + 1) 0 oF tF (by omega) fuel80
  rw [show nI 0 = 0 by decide, ← e3] at h3
  simp only [fX12_takeDecimal, ← e3] at e
  by_cases c : w ≤ 0
  · rw [if_pos c] at e
    obtain ⟨m, em⟩ : ∃ m, m = if 10 ≤ (mF ((a + n) - 1).toNatClampNeg) &&& 15 then w else fX12_meet 7 w := ⟨_, rfl⟩
    obtain ⟨m1, m2⟩ := td_sgn hw em
    obtain ⟨g, eg⟩ : ∃ g, g = LX12_takeDecimal_78 a n x2 mF (msU ((2 * n) - 1) 0 + 1) (m, g3.1, g3.2.1, 0) := ⟨_, rfl⟩
    rw [← em, ← eg] at e
    obtain ⟨i1, i2⟩ := td78 (a := a) (n := n) (x2 := x2) hM (msU ((2 * n) - 1) 0 + 1) (m, g3.1, g3.2.1, 0) m1
    rw [← eg] at i1 i2
    by_cases c2 : x2 = 0
    · rw [if_pos c2] at e
      rw [e]
      refine ⟨i1, fun h => ?_⟩
      obtain ⟨j1, j2, j3⟩ := i2 h
      obtain ⟨k1, k2⟩ := h3.1 c2 (fun j hj => absurd hj (Nat.not_lt_zero _))
      exact ⟨m2 j1, fun _ => ⟨(j2 c2).1.trans k1, (j2 c2).2 (dOk_z k2)⟩, fun c3 => absurd c2 c3⟩
    · rw [if_neg c2] at e
      rw [e]
      refine ⟨i1, fun h => ?_⟩
      obtain ⟨j1, j2, j3⟩ := i2 h
      obtain ⟨k1, k2⟩ := h3.2 c2 (fun j hj => absurd hj (Nat.not_lt_zero _))
      exact ⟨m2 j1, fun c3 => absurd c3 c2, fun _ => ⟨(j3 c2).1.trans k1, (j3 c2).2 (dOk_z k2)⟩⟩
  · rw [if_neg c] at e
    rw [e]
    exact ⟨hw, fun h => absurd h c⟩
theorem dc_u {m19 m74 u x1 x2 : Int32} (hu : 0 ≤ u) (em : m74 = if m19 = 0 then u else if 7 < x2 then fX12_meet 6 u else if x2 < x1 then u else fX12_meet 6 u) (h : m74 ≤ 0) : u ≤ 0 ∧ m74 = 0 := by
  have hp := nle_pos h
  rw [em] at hp ⊢
  by_cases c1 : m19 = 0
  · rw [if_pos c1] at hp ⊢
    exact ⟨Int32.not_lt.mp hp, zero_i hu hp⟩
  rw [if_neg c1] at hp ⊢
  by_cases c2 : 7 < x2
  · rw [if_pos c2] at hp; exact absurd (meet_pos (by decide) hu) hp
  rw [if_neg c2] at hp ⊢
  by_cases c3 : x2 < x1
  · rw [if_pos c3] at hp ⊢
    exact ⟨Int32.not_lt.mp hp, zero_i hu hp⟩
  · rw [if_neg c3] at hp; exact absurd (meet_pos (by decide) hu) hp
theorem dc_ml {x0 m19 m74 u x1 x2 : Int32} (hu : 0 ≤ u) (e19 : m19 = if x0 = 252 then 1 else if x0 = 253 then 1 else 0) (em : m74 = if m19 = 0 then u else if 7 < x2 then fX12_meet 6 u else if x2 < x1 then u else fX12_meet 6 u) (h : m74 ≤ 0) (hx : x0 = 252 ∨ x0 = 253) : x2.toInt < x1.toInt := by
  have hp := nle_pos h
  have h19 : m19 = 1 := by
    rcases hx with hx | hx
    · rw [if_pos hx] at e19; exact e19
    · rw [if_neg (by rw [hx]; decide), if_pos hx] at e19; exact e19
  rw [em, if_neg (by rw [h19]; decide)] at hp
  by_cases c2 : 7 < x2
  · rw [if_pos c2] at hp; exact absurd (meet_pos (by decide) hu) hp
  rw [if_neg c2] at hp
  by_cases c3 : x2 < x1
  · exact Int32.lt_iff_toInt_lt.mp c3
  · rw [if_neg c3] at hp; exact absurd (meet_pos (by decide) hu) hp
theorem dc155 {x0 x2 x3 : Int32} {mF : Nat → Int32} : ∀ (n9 : Nat) (w : Int32 × Int32), 0 ≤ w.1 → (LX12_decimals_155 x0 x2 x3 mF n9 w).1 ≤ 0 → w.1 = 0
  | 0, _, h, h2 => zero_i h (nle_pos h2)
  | n9 + 1, w, h, h2 => by
    simp only [LX12_decimals_155] at h2
    by_cases c1 : x2 < w.2
    · rw [if_pos c1] at h2; exact zero_i h (nle_pos h2)
    rw [if_neg c1] at h2
    by_cases c2 : x0 = 252
    · rw [if_pos c2] at h2
      by_cases c3 : mF (x3 + w.2).toNatClampNeg = 0
      · rw [if_pos c3] at h2; exact dc155 n9 (w.1, w.2 + 1) h h2
      · rw [if_neg c3] at h2
        have h3 : fX12_meet 7 w.1 = 0 := dc155 n9 (fX12_meet 7 w.1, w.2 + 1) (meet_nn (by decide) h) h2
        exact absurd h3 (ne_meet (by decide) h)
    · rw [if_neg c2] at h2; exact zero_i h (nle_pos h2)
theorem dc_dig {x0 b m w oB tB a l x2 x3 : Int32} {mF oF tF : Nat → Int32} {U M : Int32 × Int32 × Int32 × (Nat → Int32) × (Nat → Int32)} {g : Int32 × Int32} {n9 : Nat} (hM : mOk mF) (hw : 0 ≤ w) (eU : U = fX12_takeDecimal b m 0 w oB tB mF oF tF) (em : M = if x0 = 248 then (U.1, U.2.1, U.2.2.1, U.2.2.2.1, U.2.2.2.2) else (if (if U.1 ≤ 0 then (0 : Int32) else 1) = 0 then (fX12_takeDecimal a l 1 0 U.2.1 U.2.2.1 mF U.2.2.2.1 U.2.2.2.2).1 else U.1, (fX12_takeDecimal a l 1 0 U.2.1 U.2.2.1 mF U.2.2.2.1 U.2.2.2.2).2.1, (fX12_takeDecimal a l 1 0 U.2.1 U.2.2.1 mF U.2.2.2.1 U.2.2.2.2).2.2.1, (fX12_takeDecimal a l 1 0 U.2.1 U.2.2.1 mF U.2.2.2.1 U.2.2.2.2).2.2.2.1, (fX12_takeDecimal a l 1 0 U.2.1 U.2.2.1 mF U.2.2.2.1 U.2.2.2.2).2.2.2.2)) (eg : g = LX12_decimals_155 x0 x2 x3 mF n9 (M.1, 0)) (h : g.1 ≤ 0) : dOk M.2.2.2.2 ∧ (¬ x0 = 248 → dOk M.2.2.2.1) := by
  obtain ⟨V, eV⟩ : ∃ V, V = fX12_takeDecimal a l 1 0 U.2.1 U.2.2.1 mF U.2.2.2.1 U.2.2.2.2 := ⟨_, rfl⟩
  rw [← eV] at em
  obtain ⟨u1, u2⟩ := td_end hM hw eU
  obtain ⟨v1, v2⟩ := td_end hM (show (0 : Int32) ≤ 0 by decide) eV
  rw [eg] at h
  by_cases c : x0 = 248
  · rw [if_pos c] at em
    have h1 := dc155 n9 (M.1, 0) (by rw [em]; exact u1) h
    have h2 : U.1 = 0 := by rw [em] at h1; exact h1
    rw [em]
    exact ⟨((u2 (by rw [h2]; decide)).2.1 rfl).2, fun q => absurd c q⟩
  · rw [if_neg c] at em
    by_cases c2 : U.1 ≤ 0
    · rw [if_pos c2, if_pos rfl] at em
      have h1 := dc155 n9 (M.1, 0) (by rw [em]; exact v1) h
      have h2 : V.1 = 0 := by rw [em] at h1; exact h1
      obtain ⟨-, -, w3⟩ := v2 (by rw [h2]; decide)
      obtain ⟨w4, w5⟩ := w3 (by decide)
      rw [em]
      refine ⟨?_, fun _ => w5⟩
      show dOk V.2.2.2.2
      rw [w4]
      exact ((u2 c2).2.1 rfl).2
    · rw [if_neg c2, if_neg (by decide)] at em
      have h1 := dc155 n9 (M.1, 0) (by rw [em]; exact u1) h
      have h2 : U.1 = 0 := by rw [em] at h1; exact h1
      exact absurd (by rw [h2]; decide) c2

abbrev wX12_decimals (cI cB : ClassId) (a_mo a_mem a_mks a_mr a_cnt a_wd a_one a_two a_mmade a_mrest a_old : Nat) (v_thrown : Int32) (v_mask : Int32) (v_key : Int32) (v_wait : Int32) (v_problem : Int32) (v_code : Int32) (v_length : Int32) (v_cond : Int32) (v_masks : Int32) (v_addr : Int32) (v_mwanted : Int32) (v_wrong : Int32) (v_after : Int32) (v_calls : Int32) (v_oneB : Int32) (v_twoB : Int32) (v_mF : (Nat → Int32)) (v_mkF : (Nat → Int32)) (v_oneF : (Nat → Int32)) (v_twoF : (Nat → Int32)) (v_mmF : (Nat → Int32)) (v_resF : (Nat → Int32)) (v_oldF : (Nat → Int32)) : va_W := [(a_mo, .inr (12, [.int v_thrown, .ref a_mem, .ref a_mks, .ref a_mr, .int v_mask, .int v_key, .int v_wait, .int v_problem, .int v_code, .int v_length, .int v_cond, .int v_masks, .int v_addr, .int v_mwanted, .ref a_cnt, .ref a_wd, .int v_wrong, .int v_after, .int v_calls, .ref a_one, .int v_oneB, .ref a_two, .int v_twoB, .ref a_mmade, .ref a_mrest, .ref a_old])), (a_mem, .inl (cI, 8192, .inl v_mF)), (a_mks, .inl (cI, 4, .inl v_mkF)), (a_one, .inl (cI, 80, .inl v_oneF)), (a_two, .inl (cI, 80, .inl v_twoF)), (a_mmade, .inl (cI, 80, .inl v_mmF)), (a_mrest, .inl (cI, 80, .inl v_resF)), (a_old, .inl (cI, 512, .inl v_oldF))]
abbrev rmX12_decimals : Room := { frames := 3, cells := 0, slots := 0, locals := 81 }
abbrev qX12_decimals (D : va_G) (cI cB : ClassId) (a_mo a_mem a_mks a_mr a_cnt a_wd a_one a_two a_mmade a_mrest a_old : Nat) (v_thrown : Int32) (v_mask : Int32) (v_key : Int32) (v_wait : Int32) (v_problem : Int32) (v_code : Int32) (v_length : Int32) (v_cond : Int32) (v_masks : Int32) (v_addr : Int32) (v_mwanted : Int32) (v_wrong : Int32) (v_after : Int32) (v_calls : Int32) (v_oneB : Int32) (v_twoB : Int32) (v_mF : (Nat → Int32)) (v_mkF : (Nat → Int32)) (v_oneF : (Nat → Int32)) (v_twoF : (Nat → Int32)) (v_mmF : (Nat → Int32)) (v_resF : (Nat → Int32)) (v_oldF : (Nat → Int32)) (x0 : Int32) (x1 : Int32) (x2 : Int32) (x3 : Int32) (x4 : Int32) : (Nat → Prop) → Array Value → State → Outcome → State → Prop := fun A9 => va_Qv (fun (u9 : (Int32 × Int32 × Int32 × Int32 × Int32 × (Nat → Int32) × (Nat → Int32) × (Nat → Int32) × (Nat → Int32) × (Nat → Int32) × (Nat → Int32))) => u9 = fX12_decimals x0 x1 x2 x3 x4 v_key v_cond v_masks v_wrong v_after v_oneB v_twoB v_mF v_mkF v_oneF v_twoF v_mmF v_resF v_oldF) (fun u9 t9 => atW D (TYS cI cB) A9 (wX12_decimals cI cB a_mo a_mem a_mks a_mr a_cnt a_wd a_one a_two a_mmade a_mrest a_old v_thrown v_mask v_key v_wait v_problem v_code v_length u9.1 v_masks v_addr v_mwanted u9.2.1 u9.2.2.1 v_calls u9.2.2.2.1 u9.2.2.2.2.1 u9.2.2.2.2.2.1 v_mkF u9.2.2.2.2.2.2.1 u9.2.2.2.2.2.2.2.1 u9.2.2.2.2.2.2.2.2.1 u9.2.2.2.2.2.2.2.2.2.1 u9.2.2.2.2.2.2.2.2.2.2) t9) A9
set_option maxHeartbeats 4000000 in
set_option maxRecDepth 100000 in
theorem kX12_decimals (l : Launch) (D : va_G) (cI cB : ClassId) (a_mo a_mem a_mks a_mr a_cnt a_wd a_one a_two a_mmade a_mrest a_old : Nat) (sz : Nat) (v_thrown : Int32) (v_mask : Int32) (v_key : Int32) (v_wait : Int32) (v_problem : Int32) (v_code : Int32) (v_length : Int32) (v_cond : Int32) (v_masks : Int32) (v_addr : Int32) (v_mwanted : Int32) (v_wrong : Int32) (v_after : Int32) (v_calls : Int32) (v_oneB : Int32) (v_twoB : Int32) (v_mF : (Nat → Int32)) (v_mkF : (Nat → Int32)) (v_oneF : (Nat → Int32)) (v_twoF : (Nat → Int32)) (v_mmF : (Nat → Int32)) (v_resF : (Nat → Int32)) (v_oldF : (Nat → Int32)) (x0 : Int32) (x1 : Int32) (x2 : Int32) (x3 : Int32) (x4 : Int32) (hl9 : 0 ≤ x1.toInt ∧ x1.toInt ≤ 15) (hm : 0 ≤ x2.toInt ∧ x2.toInt ≤ 15) (ha : in24 x3) (hb9 : in24 x4) (hw : 0 ≤ v_wrong) (hM : mOk v_mF) : MetW l yX12_decimals (WK yX12_decimals cX12_decimals 9 none) rmX12_decimals D (TYS cI cB) (wX12_decimals cI cB a_mo a_mem a_mks a_mr a_cnt a_wd a_one a_two a_mmade a_mrest a_old v_thrown v_mask v_key v_wait v_problem v_code v_length v_cond v_masks v_addr v_mwanted v_wrong v_after v_calls v_oneB v_twoB v_mF v_mkF v_oneF v_twoF v_mmF v_resF v_oldF) sz [.ref a_mo, .int x0, .int x1, .int x2, .int x3, .int x4] (qX12_decimals D cI cB a_mo a_mem a_mks a_mr a_cnt a_wd a_one a_two a_mmade a_mrest a_old v_thrown v_mask v_key v_wait v_problem v_code v_length v_cond v_masks v_addr v_mwanted v_wrong v_after v_calls v_oneB v_twoB v_mF v_mkF v_oneF v_twoF v_mmF v_resF v_oldF x0 x1 x2 x3 x4) 0 0 := by
  refine met_std (by decide) rfl (Nat.le_of_ble_eq_true rfl) ?_
  intro p e s m below meth c A ls H hx hb hr hml hown hts hlocks hA hP hK hD hS hNW hl
  have hl : lv_has ls 9 [(0, .ref a_mo), (1, .int x0), (2, .int x1), (3, .int x2), (4, .int x3), (5, .int x4)] := hl
  have q_0 := hts _ (List.mem_cons_of_mem _ wd_836)
  have q_1 := hts _ (List.mem_cons_of_mem _ wd_777)
  have q_2 := hts _ (List.mem_cons_of_mem _ wd_784)
  have q_3 := hts _ (List.mem_cons_of_mem _ wd_783)
  have q_4 := hts _ (List.mem_cons_of_mem _ wd_889)
  refine lv_iload_n hx hb dX12_decimals_0 rfl (lv_at hl 1 rfl) ?_
  refine lv_sipush (v := 252) hx hb dX12_decimals_1 (by decide) ?_
  have J_19 : ∀ (m_19 : Int32), m_19 = (if x0 = 252 then (1) else (if x0 = 253 then (1) else (0))) → ∀ (H : Heap) (locs : List Loc), va_P D vwCl (wX12_decimals cI cB a_mo a_mem a_mks a_mr a_cnt a_wd a_one a_two a_mmade a_mrest a_old v_thrown v_mask v_key v_wait v_problem v_code v_length v_cond v_masks v_addr v_mwanted v_wrong v_after v_calls v_oneB v_twoB v_mF v_mkF v_oneF v_twoF v_mmF v_resF v_oldF) H → va_D A (wX12_decimals cI cB a_mo a_mem a_mks a_mr a_cnt a_wd a_one a_two a_mmade a_mrest a_old v_thrown v_mask v_key v_wait v_problem v_code v_length v_cond v_masks v_addr v_mwanted v_wrong v_after v_calls v_oneB v_twoB v_mF v_mkF v_oneF v_twoF v_mmF v_resF v_oldF) → va_S A s.heap H locs → ∀ (ls : Array Slot), lv_has ls 9 [(0, .ref a_mo), (1, .int x0), (2, .int x1), (3, .int x2), (4, .int x3), (5, .int x4)] → W p l e rmX12_decimals s m ([.ref a_mo, .int x0, .int x1, .int x2, .int x3, .int x4] : List Value).toArray below meth c H locs 0 0 (MQ below (qX12_decimals D cI cB a_mo a_mem a_mks a_mr a_cnt a_wd a_one a_two a_mmade a_mrest a_old v_thrown v_mask v_key v_wait v_problem v_code v_length v_cond v_masks v_addr v_mwanted v_wrong v_after v_calls v_oneB v_twoB v_mF v_mkF v_oneF v_twoF v_mmF v_resF v_oldF x0 x1 x2 x3 x4 A) ([.ref a_mo, .int x0, .int x1, .int x2, .int x3, .int x4] : List Value).toArray s 0 0 A) (F0 m 19 ls [.int m_19]) := by
    intro m_19 em_19 H locs hP hD hS ls hl
    try dsimp only at em_19
    have zm_19_0 : m_19 = 0 ∨ m_19 = 1 := by rw [em_19]; (try dsimp only); (repeat' split) <;> first | exact Or.inl rfl | exact Or.inr rfl
    refine lv_istore (lv' := [(6, .int m_19), (0, .ref a_mo), (1, .int x0), (2, .int x1), (3, .int x2), (4, .int x3), (5, .int x4)]) hx hb dX12_decimals_19 hl (by decide) rfl (fun ls hl => ?_)
    refine lv_aload_n hx hb dX12_decimals_21 rfl (lv_at hl 1 rfl) ?_
    refine lv_iload hx hb dX12_decimals_22 (lv_at hl 5 rfl) ?_
    refine lv_iload_n hx hb dX12_decimals_24 rfl (lv_at hl 3 rfl) ?_
    refine lv_iconst (v := 1) hx hb dX12_decimals_25 (by decide) ?_
    refine lv_iadd hx hb dX12_decimals_26 ?_
    refine lv_iload_n hx hb dX12_decimals_27 rfl (lv_at hl 2 rfl) ?_
    refine lv_sipush (v := 249) hx hb dX12_decimals_28 (by decide) ?_
    have J_39 : ∀ (m_39 : Int32), m_39 = (if x0 = 249 then (0) else (1)) → ∀ (H : Heap) (locs : List Loc), va_P D vwCl (wX12_decimals cI cB a_mo a_mem a_mks a_mr a_cnt a_wd a_one a_two a_mmade a_mrest a_old v_thrown v_mask v_key v_wait v_problem v_code v_length v_cond v_masks v_addr v_mwanted v_wrong v_after v_calls v_oneB v_twoB v_mF v_mkF v_oneF v_twoF v_mmF v_resF v_oldF) H → va_D A (wX12_decimals cI cB a_mo a_mem a_mks a_mr a_cnt a_wd a_one a_two a_mmade a_mrest a_old v_thrown v_mask v_key v_wait v_problem v_code v_length v_cond v_masks v_addr v_mwanted v_wrong v_after v_calls v_oneB v_twoB v_mF v_mkF v_oneF v_twoF v_mmF v_resF v_oldF) → va_S A s.heap H locs → ∀ (ls : Array Slot), lv_has ls 9 [(0, .ref a_mo), (1, .int x0), (2, .int x1), (3, .int x2), (4, .int x3), (5, .int x4), (6, .int m_19)] → W p l e rmX12_decimals s m ([.ref a_mo, .int x0, .int x1, .int x2, .int x3, .int x4] : List Value).toArray below meth c H locs 0 0 (MQ below (qX12_decimals D cI cB a_mo a_mem a_mks a_mr a_cnt a_wd a_one a_two a_mmade a_mrest a_old v_thrown v_mask v_key v_wait v_problem v_code v_length v_cond v_masks v_addr v_mwanted v_wrong v_after v_calls v_oneB v_twoB v_mF v_mkF v_oneF v_twoF v_mmF v_resF v_oldF x0 x1 x2 x3 x4 A) ([.ref a_mo, .int x0, .int x1, .int x2, .int x3, .int x4] : List Value).toArray s 0 0 A) (F0 m 39 ls [.int m_39, .int (x1 + 1), .int x3, .ref a_mo]) := by
      intro m_39 em_39 H locs hP hD hS ls hl
      try dsimp only at em_39
      have zm_39_0 : m_39 = 0 ∨ m_39 = 1 := by rw [em_39]; (try dsimp only); (repeat' split) <;> first | exact Or.inl rfl | exact Or.inr rfl
      have hPc : va_P D vwCl (wX12_look cI cB a_mo a_mem a_mks a_mr a_cnt a_wd a_one a_two a_mmade a_mrest a_old v_thrown v_mask v_key v_wait v_problem v_code v_length v_cond v_masks v_addr v_mwanted v_wrong v_after v_calls v_oneB v_twoB v_mkF) H := hP.sub [0, 2] rfl
      have hDc : va_D A (wX12_look cI cB a_mo a_mem a_mks a_mr a_cnt a_wd a_one a_two a_mmade a_mrest a_old v_thrown v_mask v_key v_wait v_problem v_code v_length v_cond v_masks v_addr v_mwanted v_wrong v_after v_calls v_oneB v_twoB v_mkF) := hD.sub [0, 2] (by decide) rfl
      have hFc := va_free (wc := (wX12_look cI cB a_mo a_mem a_mks a_mr a_cnt a_wd a_one a_two a_mmade a_mrest a_old v_thrown v_mask v_key v_wait v_problem v_code v_length v_cond v_masks v_addr v_mwanted v_wrong v_after v_calls v_oneB v_twoB v_mkF)) hD hS hA [0, 2] rfl
      refine va_callv (va_runV (As := [.int x3, .int (x1 + 1), .int m_39]) (rest := []) ⟨hx, hb, hml, hown, hts⟩ (kX12_look l D cI cB a_mo a_mem a_mks a_mr a_cnt a_wd a_one a_two a_mmade a_mrest a_old H.size v_thrown v_mask v_key v_wait v_problem v_code v_length v_cond v_masks v_addr v_mwanted v_wrong v_after v_calls v_oneB v_twoB v_mkF x3 (x1 + 1) m_39) (cwV 3 hts (gd_V wd_857 wd_858 wd_859 wd_807 wd_837) rfl rfl rfl hdX12_look ⟨Nat.le_of_ble_eq_true rfl, Nat.le_of_ble_eq_true rfl⟩) (preV_std (ci := 12) (q0 := 0) hPc hK hDc hNW rfl rfl) rfl rfl hl.1 rfl (lv_room (Nat.le_of_ble_eq_true rfl)) dX12_decimals_39 ⟨Nat.zero_le _, Nat.zero_le _⟩) hS (fun q _ h => hFc q h) hFc (fun u_39 t9 H1 locs ht9 hvm9 hw9 hB9 hz9 hk9 hS => ?_)
      have eu_39 : u_39 = fX12_look x3 (x1 + 1) m_39 v_key v_wrong v_mkF := hw9
      obtain ⟨hP, hD⟩ := back_std (w1 := (wX12_look cI cB a_mo a_mem a_mks a_mr a_cnt a_wd a_one a_two a_mmade a_mrest a_old v_thrown v_mask v_key v_wait v_problem v_code v_length v_cond v_masks v_addr v_mwanted u_39 v_after v_calls v_oneB v_twoB v_mkF)) (w2 := (wX12_decimals cI cB a_mo a_mem a_mks a_mr a_cnt a_wd a_one a_two a_mmade a_mrest a_old v_thrown v_mask v_key v_wait v_problem v_code v_length v_cond v_masks v_addr v_mwanted u_39 v_after v_calls v_oneB v_twoB v_mF v_mkF v_oneF v_twoF v_mmF v_resF v_oldF)) (wr := [(a_mem, .inl (cI, 8192, .inl v_mF)), (a_one, .inl (cI, 80, .inl v_oneF)), (a_two, .inl (cI, 80, .inl v_twoF)), (a_mmade, .inl (cI, 80, .inl v_mmF)), (a_mrest, .inl (cI, 80, .inl v_resF)), (a_old, .inl (cI, 512, .inl v_oldF))]) hP hD [0, 2] [1, 3, 4, 5, 6, 7] [6, 0, 7, 1, 2, 3, 4, 5] rfl rfl (by decide) (by decide) hk9 hFc hB9 ht9 (by decide) rfl
      clear hB9 hk9 hz9 hvm9 ht9 hFc hPc hDc
      generalize H1 = H at hP hS ⊢
      refine lv_aload_n hx hb dX12_decimals_42 rfl (lv_at hl 0 rfl) ?_
      refine lv_iload hx hb dX12_decimals_43 (lv_at hl 5 rfl) ?_
      refine lv_iload_n hx hb dX12_decimals_45 rfl (lv_at hl 3 rfl) ?_
      refine lv_iconst (v := 1) hx hb dX12_decimals_46 (by decide) ?_
      refine lv_iadd hx hb dX12_decimals_47 ?_
      refine lv_iconst (v := 0) hx hb dX12_decimals_48 (by decide) ?_
      have hPc : va_P D vwCl (wX12_look cI cB a_mo a_mem a_mks a_mr a_cnt a_wd a_one a_two a_mmade a_mrest a_old v_thrown v_mask v_key v_wait v_problem v_code v_length v_cond v_masks v_addr v_mwanted u_39 v_after v_calls v_oneB v_twoB v_mkF) H := hP.sub [0, 2] rfl
      have hDc : va_D A (wX12_look cI cB a_mo a_mem a_mks a_mr a_cnt a_wd a_one a_two a_mmade a_mrest a_old v_thrown v_mask v_key v_wait v_problem v_code v_length v_cond v_masks v_addr v_mwanted u_39 v_after v_calls v_oneB v_twoB v_mkF) := hD.sub [0, 2] (by decide) rfl
      have hFc := va_free (wc := (wX12_look cI cB a_mo a_mem a_mks a_mr a_cnt a_wd a_one a_two a_mmade a_mrest a_old v_thrown v_mask v_key v_wait v_problem v_code v_length v_cond v_masks v_addr v_mwanted u_39 v_after v_calls v_oneB v_twoB v_mkF)) hD hS hA [0, 2] rfl
      refine va_callv (va_runV (As := [.int x4, .int (x2 + 1), .int 0]) (rest := []) ⟨hx, hb, hml, hown, hts⟩ (kX12_look l D cI cB a_mo a_mem a_mks a_mr a_cnt a_wd a_one a_two a_mmade a_mrest a_old H.size v_thrown v_mask v_key v_wait v_problem v_code v_length v_cond v_masks v_addr v_mwanted u_39 v_after v_calls v_oneB v_twoB v_mkF x4 (x2 + 1) 0) (cwV 3 hts (gd_V wd_857 wd_858 wd_859 wd_807 wd_837) rfl rfl rfl hdX12_look ⟨Nat.le_of_ble_eq_true rfl, Nat.le_of_ble_eq_true rfl⟩) (preV_std (ci := 12) (q0 := 0) hPc hK hDc hNW rfl rfl) rfl rfl hl.1 rfl (lv_room (Nat.le_of_ble_eq_true rfl)) dX12_decimals_49 ⟨Nat.zero_le _, Nat.zero_le _⟩) hS (fun q _ h => hFc q h) hFc (fun u_49 t9 H1 locs ht9 hvm9 hw9 hB9 hz9 hk9 hS => ?_)
      have eu_49 : u_49 = fX12_look x4 (x2 + 1) 0 v_key u_39 v_mkF := hw9
      obtain ⟨hP, hD⟩ := back_std (w1 := (wX12_look cI cB a_mo a_mem a_mks a_mr a_cnt a_wd a_one a_two a_mmade a_mrest a_old v_thrown v_mask v_key v_wait v_problem v_code v_length v_cond v_masks v_addr v_mwanted u_49 v_after v_calls v_oneB v_twoB v_mkF)) (w2 := (wX12_decimals cI cB a_mo a_mem a_mks a_mr a_cnt a_wd a_one a_two a_mmade a_mrest a_old v_thrown v_mask v_key v_wait v_problem v_code v_length v_cond v_masks v_addr v_mwanted u_49 v_after v_calls v_oneB v_twoB v_mF v_mkF v_oneF v_twoF v_mmF v_resF v_oldF)) (wr := [(a_mem, .inl (cI, 8192, .inl v_mF)), (a_one, .inl (cI, 80, .inl v_oneF)), (a_two, .inl (cI, 80, .inl v_twoF)), (a_mmade, .inl (cI, 80, .inl v_mmF)), (a_mrest, .inl (cI, 80, .inl v_resF)), (a_old, .inl (cI, 512, .inl v_oldF))]) hP hD [0, 2] [1, 3, 4, 5, 6, 7] [6, 0, 7, 1, 2, 3, 4, 5] rfl rfl (by decide) (by decide) hk9 hFc hB9 ht9 (by decide) rfl
      clear hB9 hk9 hz9 hvm9 ht9 hFc hPc hDc
      generalize H1 = H at hP hS ⊢
      refine lv_iload hx hb dX12_decimals_52 (lv_at hl 6 rfl) ?_
      have J_74 : ∀ (m_74 : Int32), m_74 = (if m_19 = 0 then (u_49) else (if 7 < x2 then (let u_71 := fX12_meet 6 u_49; u_71) else (if x2 < x1 then (u_49) else (let u_71 := fX12_meet 6 u_49; u_71)))) → ∀ (H : Heap) (locs : List Loc), va_P D vwCl (wX12_decimals cI cB a_mo a_mem a_mks a_mr a_cnt a_wd a_one a_two a_mmade a_mrest a_old v_thrown v_mask v_key v_wait v_problem v_code v_length v_cond v_masks v_addr v_mwanted m_74 v_after v_calls v_oneB v_twoB v_mF v_mkF v_oneF v_twoF v_mmF v_resF v_oldF) H → va_D A (wX12_decimals cI cB a_mo a_mem a_mks a_mr a_cnt a_wd a_one a_two a_mmade a_mrest a_old v_thrown v_mask v_key v_wait v_problem v_code v_length v_cond v_masks v_addr v_mwanted m_74 v_after v_calls v_oneB v_twoB v_mF v_mkF v_oneF v_twoF v_mmF v_resF v_oldF) → va_S A s.heap H locs → ∀ (ls : Array Slot), lv_has ls 9 [(0, .ref a_mo), (1, .int x0), (2, .int x1), (3, .int x2), (4, .int x3), (5, .int x4), (6, .int m_19)] → W p l e rmX12_decimals s m ([.ref a_mo, .int x0, .int x1, .int x2, .int x3, .int x4] : List Value).toArray below meth c H locs 0 0 (MQ below (qX12_decimals D cI cB a_mo a_mem a_mks a_mr a_cnt a_wd a_one a_two a_mmade a_mrest a_old v_thrown v_mask v_key v_wait v_problem v_code v_length v_cond v_masks v_addr v_mwanted v_wrong v_after v_calls v_oneB v_twoB v_mF v_mkF v_oneF v_twoF v_mmF v_resF v_oldF x0 x1 x2 x3 x4 A) ([.ref a_mo, .int x0, .int x1, .int x2, .int x3, .int x4] : List Value).toArray s 0 0 A) (F0 m 74 ls []) := by
        intro m_74 em_74 H locs hP hD hS ls hl
        try dsimp only at em_74
        refine lv_aload_n hx hb dX12_decimals_74 rfl (lv_at hl 0 rfl) ?_
        refine va_get (D := D) (ci := 12) (v := .int m_74) (C := RX12) (T := TX12) (N := 26) hx hb hts in_X12 hown hK hP 0 rfl rfl 16 (by decide) q_0 (fun _ h9 => h9) rfl dX12_decimals_75 ?_
        refine lv_if_le (tgt := 82) hx hb dX12_decimals_78 (by decide) (fun c_78 => ?_) (fun c_78 => ?_)
        · skip
          have hu0 : 0 ≤ u_49 := by rw [eu_49, eu_39]; exact look_nn' (look_nn' hw)
          have hu := dc_u hu0 em_74 c_78
          have hw74 : 0 ≤ m_74 := by rw [hu.2]; decide
          have hn1 := p1_of (N := 15) (by decide) hl9
          have hn2 := p1_of (N := 15) (by decide) hm
          have hAB := lk2 ha hb9 ⟨hn1.1, Int.le_trans hn1.2 (by decide)⟩ ⟨hn2.1, Int.le_trans hn2.2 (by decide)⟩ hw eu_39 eu_49 hu.1
          refine lv_aload_n hx hb dX12_decimals_82 rfl (lv_at hl 0 rfl) ?_
          refine lv_iload hx hb dX12_decimals_83 (lv_at hl 5 rfl) ?_
          refine lv_iload_n hx hb dX12_decimals_85 rfl (lv_at hl 3 rfl) ?_
          refine lv_iconst (v := 1) hx hb dX12_decimals_86 (by decide) ?_
          refine lv_iadd hx hb dX12_decimals_87 ?_
          refine lv_iconst (v := 0) hx hb dX12_decimals_88 (by decide) ?_
          have hPc : va_P D vwCl (wX12_takeDecimal cI cB a_mo a_mem a_mks a_mr a_cnt a_wd a_one a_two a_mmade a_mrest a_old v_thrown v_mask v_key v_wait v_problem v_code v_length v_cond v_masks v_addr v_mwanted m_74 v_after v_calls v_oneB v_twoB v_mF v_oneF v_twoF) H := hP.sub [0, 1, 3, 4] rfl
          have hDc : va_D A (wX12_takeDecimal cI cB a_mo a_mem a_mks a_mr a_cnt a_wd a_one a_two a_mmade a_mrest a_old v_thrown v_mask v_key v_wait v_problem v_code v_length v_cond v_masks v_addr v_mwanted m_74 v_after v_calls v_oneB v_twoB v_mF v_oneF v_twoF) := hD.sub [0, 1, 3, 4] (by decide) rfl
          have hFc := va_free (wc := (wX12_takeDecimal cI cB a_mo a_mem a_mks a_mr a_cnt a_wd a_one a_two a_mmade a_mrest a_old v_thrown v_mask v_key v_wait v_problem v_code v_length v_cond v_masks v_addr v_mwanted m_74 v_after v_calls v_oneB v_twoB v_mF v_oneF v_twoF)) hD hS hA [0, 1, 3, 4] rfl
          refine va_callv (va_runV (As := [.int x4, .int (x2 + 1), .int 0]) (rest := []) ⟨hx, hb, hml, hown, hts⟩ (kX12_takeDecimal l D cI cB a_mo a_mem a_mks a_mr a_cnt a_wd a_one a_two a_mmade a_mrest a_old H.size v_thrown v_mask v_key v_wait v_problem v_code v_length v_cond v_masks v_addr v_mwanted m_74 v_after v_calls v_oneB v_twoB v_mF v_oneF v_twoF x4 (x2 + 1) 0 hn2 (fun _ => hAB.2)) (cwV 3 hts (gd_V wd_931 wd_932 wd_933 wd_807 wd_887) rfl rfl rfl hdX12_takeDecimal ⟨Nat.le_of_ble_eq_true rfl, Nat.le_of_ble_eq_true rfl⟩) (preV_std (ci := 12) (q0 := 0) hPc hK hDc hNW rfl rfl) rfl rfl hl.1 rfl (lv_room (Nat.le_of_ble_eq_true rfl)) dX12_decimals_89 ⟨Nat.zero_le _, Nat.zero_le _⟩) hS (fun q _ h => hFc q h) hFc (fun u_89 t9 H1 locs ht9 hvm9 hw9 hB9 hz9 hk9 hS => ?_)
          have eu_89 : u_89 = fX12_takeDecimal x4 (x2 + 1) 0 m_74 v_oneB v_twoB v_mF v_oneF v_twoF := hw9
          obtain ⟨hP, hD⟩ := back_std (w1 := (wX12_takeDecimal cI cB a_mo a_mem a_mks a_mr a_cnt a_wd a_one a_two a_mmade a_mrest a_old v_thrown v_mask v_key v_wait v_problem v_code v_length v_cond v_masks v_addr v_mwanted u_89.1 v_after v_calls u_89.2.1 u_89.2.2.1 v_mF u_89.2.2.2.1 u_89.2.2.2.2)) (w2 := (wX12_decimals cI cB a_mo a_mem a_mks a_mr a_cnt a_wd a_one a_two a_mmade a_mrest a_old v_thrown v_mask v_key v_wait v_problem v_code v_length v_cond v_masks v_addr v_mwanted u_89.1 v_after v_calls u_89.2.1 u_89.2.2.1 v_mF v_mkF u_89.2.2.2.1 u_89.2.2.2.2 v_mmF v_resF v_oldF)) (wr := [(a_mks, .inl (cI, 4, .inl v_mkF)), (a_mmade, .inl (cI, 80, .inl v_mmF)), (a_mrest, .inl (cI, 80, .inl v_resF)), (a_old, .inl (cI, 512, .inl v_oldF))]) hP hD [0, 1, 3, 4] [2, 5, 6, 7] [4, 5, 0, 6, 7, 1, 2, 3] rfl rfl (by decide) (by decide) hk9 hFc hB9 ht9 (by decide) rfl
          clear hB9 hk9 hz9 hvm9 ht9 hFc hPc hDc
          generalize H1 = H at hP hS ⊢
          refine lv_iload_n hx hb dX12_decimals_92 rfl (lv_at hl 1 rfl) ?_
          refine lv_sipush (v := 248) hx hb dX12_decimals_93 (by decide) ?_
          have J_152 : ∀ (m_152 : (Int32 × Int32 × Int32 × (Nat → Int32) × (Nat → Int32))), m_152 = (if x0 = 248 then ((u_89.1, u_89.2.1, u_89.2.2.1, u_89.2.2.2.1, u_89.2.2.2.2)) else (let m_111 : Int32 := (if u_89.1 ≤ 0 then (0) else (1)); let u_131 := fX12_takeDecimal x3 (x1 + 1) 1 0 u_89.2.1 u_89.2.2.1 v_mF u_89.2.2.2.1 u_89.2.2.2.2; let m_149 : Int32 := (if m_111 = 0 then (u_131.1) else (u_89.1)); (m_149, u_131.2.1, u_131.2.2.1, u_131.2.2.2.1, u_131.2.2.2.2))) → ∀ (H : Heap) (locs : List Loc), va_P D vwCl (wX12_decimals cI cB a_mo a_mem a_mks a_mr a_cnt a_wd a_one a_two a_mmade a_mrest a_old v_thrown v_mask v_key v_wait v_problem v_code v_length v_cond v_masks v_addr v_mwanted m_152.1 v_after v_calls m_152.2.1 m_152.2.2.1 v_mF v_mkF m_152.2.2.2.1 m_152.2.2.2.2 v_mmF v_resF v_oldF) H → va_D A (wX12_decimals cI cB a_mo a_mem a_mks a_mr a_cnt a_wd a_one a_two a_mmade a_mrest a_old v_thrown v_mask v_key v_wait v_problem v_code v_length v_cond v_masks v_addr v_mwanted m_152.1 v_after v_calls m_152.2.1 m_152.2.2.1 v_mF v_mkF m_152.2.2.2.1 m_152.2.2.2.2 v_mmF v_resF v_oldF) → va_S A s.heap H locs → ∀ (ls : Array Slot), lv_has ls 9 [(0, .ref a_mo), (1, .int x0), (2, .int x1), (3, .int x2), (4, .int x3), (5, .int x4), (6, .int m_19)] → W p l e rmX12_decimals s m ([.ref a_mo, .int x0, .int x1, .int x2, .int x3, .int x4] : List Value).toArray below meth c H locs 0 0 (MQ below (qX12_decimals D cI cB a_mo a_mem a_mks a_mr a_cnt a_wd a_one a_two a_mmade a_mrest a_old v_thrown v_mask v_key v_wait v_problem v_code v_length v_cond v_masks v_addr v_mwanted v_wrong v_after v_calls v_oneB v_twoB v_mF v_mkF v_oneF v_twoF v_mmF v_resF v_oldF x0 x1 x2 x3 x4 A) ([.ref a_mo, .int x0, .int x1, .int x2, .int x3, .int x4] : List Value).toArray s 0 0 A) (F0 m 152 ls []) := by
            intro m_152 em_152 H locs hP hD hS ls hl
            try dsimp only at em_152
            refine lv_iconst (v := 0) hx hb dX12_decimals_152 (by decide) ?_
            refine lv_istore (lv' := [(7, .int 0), (0, .ref a_mo), (1, .int x0), (2, .int x1), (3, .int x2), (4, .int x3), (5, .int x4), (6, .int m_19)]) hx hb dX12_decimals_153 hl (by decide) rfl (fun ls hl => ?_)
            obtain ⟨g_155, eg_155⟩ : ∃ z : (Int32 × Int32), z = LX12_decimals_155 x0 x2 x3 v_mF (msU (x2 + 1) 0 + 1) (m_152.1, 0) := ⟨_, rfl⟩
            have K_155_0 : ∀ (H : Heap) (locs : List Loc), va_P D vwCl (wX12_decimals cI cB a_mo a_mem a_mks a_mr a_cnt a_wd a_one a_two a_mmade a_mrest a_old v_thrown v_mask v_key v_wait v_problem v_code v_length v_cond v_masks v_addr v_mwanted g_155.1 v_after v_calls m_152.2.1 m_152.2.2.1 v_mF v_mkF m_152.2.2.2.1 m_152.2.2.2.2 v_mmF v_resF v_oldF) H → va_D A (wX12_decimals cI cB a_mo a_mem a_mks a_mr a_cnt a_wd a_one a_two a_mmade a_mrest a_old v_thrown v_mask v_key v_wait v_problem v_code v_length v_cond v_masks v_addr v_mwanted g_155.1 v_after v_calls m_152.2.1 m_152.2.2.1 v_mF v_mkF m_152.2.2.2.1 m_152.2.2.2.2 v_mmF v_resF v_oldF) → va_S A s.heap H locs → ∀ (ls : Array Slot), lv_has ls 9 [(0, .ref a_mo), (1, .int x0), (2, .int x1), (3, .int x2), (4, .int x3), (5, .int x4), (6, .int m_19), (7, .int g_155.2)] → W p l e rmX12_decimals s m ([.ref a_mo, .int x0, .int x1, .int x2, .int x3, .int x4] : List Value).toArray below meth c H locs 0 0 (MQ below (qX12_decimals D cI cB a_mo a_mem a_mks a_mr a_cnt a_wd a_one a_two a_mmade a_mrest a_old v_thrown v_mask v_key v_wait v_problem v_code v_length v_cond v_masks v_addr v_mwanted v_wrong v_after v_calls v_oneB v_twoB v_mF v_mkF v_oneF v_twoF v_mmF v_resF v_oldF x0 x1 x2 x3 x4 A) ([.ref a_mo, .int x0, .int x1, .int x2, .int x3, .int x4] : List Value).toArray s 0 0 A) (F0 m 193 ls []) := by
              intro H locs hP hD hS ls hl
              refine lv_aload_n hx hb dX12_decimals_193 rfl (lv_at hl 0 rfl) ?_
              refine va_get (D := D) (ci := 12) (v := .int g_155.1) (C := RX12) (T := TX12) (N := 26) hx hb hts in_X12 hown hK hP 0 rfl rfl 16 (by decide) q_0 (fun _ h9 => h9) rfl dX12_decimals_194 ?_
              refine lv_if_le (tgt := 201) hx hb dX12_decimals_197 (by decide) (fun c_197 => ?_) (fun c_197 => ?_)
              · skip
                have hdig := dc_dig hM hw74 eu_89 em_152 eg_155 c_197
                refine lv_iload_n hx hb dX12_decimals_201 rfl (lv_at hl 1 rfl) ?_
                refine lv_sipush (v := 248) hx hb dX12_decimals_202 (by decide) ?_
                refine lv_icmp_ne (tgt := 254) hx hb dX12_decimals_205 (by decide) (fun c_205 => ?_) (fun c_205 => ?_)
                · skip
                  refine lv_iload_n hx hb dX12_decimals_254 rfl (lv_at hl 1 rfl) ?_
                  refine lv_sipush (v := 252) hx hb dX12_decimals_255 (by decide) ?_
                  refine lv_icmp_ne (tgt := 272) hx hb dX12_decimals_258 (by decide) (fun c_258 => ?_) (fun c_258 => ?_)
                  · skip
                    refine lv_iload_n hx hb dX12_decimals_272 rfl (lv_at hl 1 rfl) ?_
                    refine lv_sipush (v := 253) hx hb dX12_decimals_273 (by decide) ?_
                    refine lv_icmp_ne (tgt := 290) hx hb dX12_decimals_276 (by decide) (fun c_276 => ?_) (fun c_276 => ?_)
                    · skip
                      refine lv_aload_n hx hb dX12_decimals_290 rfl (lv_at hl 0 rfl) ?_
                      refine lv_iload_n hx hb dX12_decimals_291 rfl (lv_at hl 1 rfl) ?_
                      refine lv_sipush (v := 251) hx hb dX12_decimals_292 (by decide) ?_
                      have J_310 : ∀ (m_310 : Int32), m_310 = (if x0 = 251 then (1) else (if x0 = 249 then (1) else (0))) → ∀ (H : Heap) (locs : List Loc), va_P D vwCl (wX12_decimals cI cB a_mo a_mem a_mks a_mr a_cnt a_wd a_one a_two a_mmade a_mrest a_old v_thrown v_mask v_key v_wait v_problem v_code v_length v_cond v_masks v_addr v_mwanted g_155.1 v_after v_calls m_152.2.1 m_152.2.2.1 v_mF v_mkF m_152.2.2.2.1 m_152.2.2.2.2 v_mmF v_resF v_oldF) H → va_D A (wX12_decimals cI cB a_mo a_mem a_mks a_mr a_cnt a_wd a_one a_two a_mmade a_mrest a_old v_thrown v_mask v_key v_wait v_problem v_code v_length v_cond v_masks v_addr v_mwanted g_155.1 v_after v_calls m_152.2.1 m_152.2.2.1 v_mF v_mkF m_152.2.2.2.1 m_152.2.2.2.2 v_mmF v_resF v_oldF) → va_S A s.heap H locs → ∀ (ls : Array Slot), lv_has ls 9 [(0, .ref a_mo), (1, .int x0), (2, .int x1), (3, .int x2), (4, .int x3), (5, .int x4), (6, .int m_19), (7, .int g_155.2)] → W p l e rmX12_decimals s m ([.ref a_mo, .int x0, .int x1, .int x2, .int x3, .int x4] : List Value).toArray below meth c H locs 0 0 (MQ below (qX12_decimals D cI cB a_mo a_mem a_mks a_mr a_cnt a_wd a_one a_two a_mmade a_mrest a_old v_thrown v_mask v_key v_wait v_problem v_code v_length v_cond v_masks v_addr v_mwanted v_wrong v_after v_calls v_oneB v_twoB v_mF v_mkF v_oneF v_twoF v_mmF v_resF v_oldF x0 x1 x2 x3 x4 A) ([.ref a_mo, .int x0, .int x1, .int x2, .int x3, .int x4] : List Value).toArray s 0 0 A) (F0 m 310 ls [.int m_310, .ref a_mo]) := by
                        intro m_310 em_310 H locs hP hD hS ls hl
                        try dsimp only at em_310
                        have zm_310_0 : m_310 = 0 ∨ m_310 = 1 := by rw [em_310]; (try dsimp only); (repeat' split) <;> first | exact Or.inl rfl | exact Or.inr rfl
                        refine lv_iload_n hx hb dX12_decimals_310 rfl (lv_at hl 1 rfl) ?_
                        refine lv_sipush (v := 249) hx hb dX12_decimals_311 (by decide) ?_
                        have J_322 : ∀ (m_322 : Int32), m_322 = (if x0 = 249 then (1) else (0)) → ∀ (H : Heap) (locs : List Loc), va_P D vwCl (wX12_decimals cI cB a_mo a_mem a_mks a_mr a_cnt a_wd a_one a_two a_mmade a_mrest a_old v_thrown v_mask v_key v_wait v_problem v_code v_length v_cond v_masks v_addr v_mwanted g_155.1 v_after v_calls m_152.2.1 m_152.2.2.1 v_mF v_mkF m_152.2.2.2.1 m_152.2.2.2.2 v_mmF v_resF v_oldF) H → va_D A (wX12_decimals cI cB a_mo a_mem a_mks a_mr a_cnt a_wd a_one a_two a_mmade a_mrest a_old v_thrown v_mask v_key v_wait v_problem v_code v_length v_cond v_masks v_addr v_mwanted g_155.1 v_after v_calls m_152.2.1 m_152.2.2.1 v_mF v_mkF m_152.2.2.2.1 m_152.2.2.2.2 v_mmF v_resF v_oldF) → va_S A s.heap H locs → ∀ (ls : Array Slot), lv_has ls 9 [(0, .ref a_mo), (1, .int x0), (2, .int x1), (3, .int x2), (4, .int x3), (5, .int x4), (6, .int m_19), (7, .int g_155.2)] → W p l e rmX12_decimals s m ([.ref a_mo, .int x0, .int x1, .int x2, .int x3, .int x4] : List Value).toArray below meth c H locs 0 0 (MQ below (qX12_decimals D cI cB a_mo a_mem a_mks a_mr a_cnt a_wd a_one a_two a_mmade a_mrest a_old v_thrown v_mask v_key v_wait v_problem v_code v_length v_cond v_masks v_addr v_mwanted v_wrong v_after v_calls v_oneB v_twoB v_mF v_mkF v_oneF v_twoF v_mmF v_resF v_oldF x0 x1 x2 x3 x4 A) ([.ref a_mo, .int x0, .int x1, .int x2, .int x3, .int x4] : List Value).toArray s 0 0 A) (F0 m 322 ls [.int m_322, .int m_310, .ref a_mo]) := by
                          intro m_322 em_322 H locs hP hD hS ls hl
                          try dsimp only at em_322
                          have zm_322_0 : m_322 = 0 ∨ m_322 = 1 := by rw [em_322]; (try dsimp only); (repeat' split) <;> first | exact Or.inl rfl | exact Or.inr rfl
                          refine lv_iload hx hb dX12_decimals_322 (lv_at hl 4 rfl) ?_
                          refine lv_iload_n hx hb dX12_decimals_324 rfl (lv_at hl 2 rfl) ?_
                          refine lv_iconst (v := 1) hx hb dX12_decimals_325 (by decide) ?_
                          refine lv_iadd hx hb dX12_decimals_326 ?_
                          have hPc : va_P D vwCl (wX12_sumOfDecimals cI cB a_mo a_mem a_mks a_mr a_cnt a_wd a_one a_two a_mmade a_mrest a_old v_thrown v_mask v_key v_wait v_problem v_code v_length v_cond v_masks v_addr v_mwanted g_155.1 v_after v_calls m_152.2.1 m_152.2.2.1 v_mF m_152.2.2.2.1 m_152.2.2.2.2 v_mmF) H := hP.sub [0, 1, 3, 4, 5] rfl
                          have hDc : va_D A (wX12_sumOfDecimals cI cB a_mo a_mem a_mks a_mr a_cnt a_wd a_one a_two a_mmade a_mrest a_old v_thrown v_mask v_key v_wait v_problem v_code v_length v_cond v_masks v_addr v_mwanted g_155.1 v_after v_calls m_152.2.1 m_152.2.2.1 v_mF m_152.2.2.2.1 m_152.2.2.2.2 v_mmF) := hD.sub [0, 1, 3, 4, 5] (by decide) rfl
                          have hFc := va_free (wc := (wX12_sumOfDecimals cI cB a_mo a_mem a_mks a_mr a_cnt a_wd a_one a_two a_mmade a_mrest a_old v_thrown v_mask v_key v_wait v_problem v_code v_length v_cond v_masks v_addr v_mwanted g_155.1 v_after v_calls m_152.2.1 m_152.2.2.1 v_mF m_152.2.2.2.1 m_152.2.2.2.2 v_mmF)) hD hS hA [0, 1, 3, 4, 5] rfl
                          refine va_callv (va_runV (As := [.int m_310, .int m_322, .int x3, .int (x1 + 1)]) (rest := []) ⟨hx, hb, hml, hown, hts⟩ (kX12_sumOfDecimals l D cI cB a_mo a_mem a_mks a_mr a_cnt a_wd a_one a_two a_mmade a_mrest a_old H.size v_thrown v_mask v_key v_wait v_problem v_code v_length v_cond v_masks v_addr v_mwanted g_155.1 v_after v_calls m_152.2.1 m_152.2.2.1 v_mF m_152.2.2.2.1 m_152.2.2.2.2 v_mmF m_310 m_322 x3 (x1 + 1) hn1 hAB.1) (cwV 4 hts (gd_V wd_989 wd_990 wd_991 wd_807 wd_908) rfl rfl rfl hdX12_sumOfDecimals ⟨Nat.le_of_ble_eq_true rfl, Nat.le_of_ble_eq_true rfl⟩) (preV_std (ci := 12) (q0 := 0) hPc hK hDc hNW rfl rfl) rfl rfl hl.1 rfl (lv_room (Nat.le_of_ble_eq_true rfl)) dX12_decimals_327 ⟨Nat.zero_le _, Nat.zero_le _⟩) hS (fun q _ h => hFc q h) hFc (fun u_327 t9 H1 locs ht9 hvm9 hw9 hB9 hz9 hk9 hS => ?_)
                          have eu_327 : u_327 = fX12_sumOfDecimals m_310 m_322 x3 (x1 + 1) v_cond v_masks v_after m_152.2.1 m_152.2.2.1 v_mF m_152.2.2.2.1 m_152.2.2.2.2 v_mmF := hw9
                          obtain ⟨hP, hD⟩ := back_std (w1 := (wX12_sumOfDecimals cI cB a_mo a_mem a_mks a_mr a_cnt a_wd a_one a_two a_mmade a_mrest a_old v_thrown v_mask v_key v_wait v_problem v_code v_length u_327.1 v_masks v_addr v_mwanted g_155.1 u_327.2.1 v_calls m_152.2.1 m_152.2.2.1 u_327.2.2.1 m_152.2.2.2.1 m_152.2.2.2.2 u_327.2.2.2)) (w2 := (wX12_decimals cI cB a_mo a_mem a_mks a_mr a_cnt a_wd a_one a_two a_mmade a_mrest a_old v_thrown v_mask v_key v_wait v_problem v_code v_length u_327.1 v_masks v_addr v_mwanted g_155.1 u_327.2.1 v_calls m_152.2.1 m_152.2.2.1 u_327.2.2.1 v_mkF m_152.2.2.2.1 m_152.2.2.2.2 u_327.2.2.2 v_resF v_oldF)) (wr := [(a_mks, .inl (cI, 4, .inl v_mkF)), (a_mrest, .inl (cI, 80, .inl v_resF)), (a_old, .inl (cI, 512, .inl v_oldF))]) hP hD [0, 1, 3, 4, 5] [2, 6, 7] [3, 4, 0, 5, 6, 7, 1, 2] rfl rfl (by decide) (by decide) hk9 hFc hB9 ht9 (by decide) rfl
                          clear hB9 hk9 hz9 hvm9 ht9 hFc hPc hDc
                          generalize H1 = H at hP hS ⊢
                          have hf9 : (u_327.1, g_155.1, u_327.2.1, m_152.2.1, m_152.2.2.1, u_327.2.2.1, m_152.2.2.2.1, m_152.2.2.2.2, u_327.2.2.2, v_resF, v_oldF) = fX12_decimals x0 x1 x2 x3 x4 v_key v_cond v_masks v_wrong v_after v_oneB v_twoB v_mF v_mkF v_oneF v_twoF v_mmF v_resF v_oldF := by simp only [fX12_decimals, ← em_310]; (try simp only [← em_19, ← em_39, ← eu_39, ← eu_49, ← em_74, ← eu_89, ← em_152, ← eg_155, ← em_322, ← eu_327]); (try simp only [if_pos c_78, if_pos c_197, if_neg c_205, if_neg c_258, if_neg c_276])
                          exact W.vret hx hb hr (fun t9 ht9 hW9 => ⟨⟨(u_327.1, g_155.1, u_327.2.1, m_152.2.1, m_152.2.2.1, u_327.2.2.1, m_152.2.2.2.1, m_152.2.2.2.2, u_327.2.2.2, v_resF, v_oldF), rfl, hf9, ⟨by rw [ht9]; exact hP, va_K.moved hW9.alike hK, hD⟩⟩, hS.F ht9⟩) hS.2.2 dX12_decimals_330
                        refine lv_icmp_ne (tgt := 321) hx hb dX12_decimals_314 (by decide) (fun c_314 => ?_) (fun c_314 => ?_)
                        · skip
                          refine lv_iconst (v := 0) hx hb dX12_decimals_321 (by decide) ?_
                          exact J_322 0 (by (try simp only [if_neg c_314])) _ _ hP hD hS ls (lv_sub hl [0, 1, 2, 3, 4, 5, 6, 7] rfl)
                        · skip
                          refine lv_iconst (v := 1) hx hb dX12_decimals_317 (by decide) ?_
                          refine lv_goto (tgt := 322) hx hb dX12_decimals_318 (by decide) ?_
                          exact J_322 1 (by (try simp only [if_pos c_314])) _ _ hP hD hS ls (lv_sub hl [0, 1, 2, 3, 4, 5, 6, 7] rfl)
                      refine lv_icmp_eq (tgt := 305) hx hb dX12_decimals_295 (by decide) (fun c_295 => ?_) (fun c_295 => ?_)
                      · skip
                        refine lv_iconst (v := 1) hx hb dX12_decimals_305 (by decide) ?_
                        refine lv_goto (tgt := 310) hx hb dX12_decimals_306 (by decide) ?_
                        exact J_310 1 (by (try simp only [if_pos c_295])) _ _ hP hD hS ls (lv_sub hl [0, 1, 2, 3, 4, 5, 6, 7] rfl)
                      · skip
                        refine lv_iload_n hx hb dX12_decimals_298 rfl (lv_at hl 1 rfl) ?_
                        refine lv_sipush (v := 249) hx hb dX12_decimals_299 (by decide) ?_
                        refine lv_icmp_ne (tgt := 309) hx hb dX12_decimals_302 (by decide) (fun c_302 => ?_) (fun c_302 => ?_)
                        · skip
                          refine lv_iconst (v := 0) hx hb dX12_decimals_309 (by decide) ?_
                          exact J_310 0 (by (try simp only [if_neg c_295, if_neg c_302])) _ _ hP hD hS ls (lv_sub hl [0, 1, 2, 3, 4, 5, 6, 7] rfl)
                        · skip
                          refine lv_iconst (v := 1) hx hb dX12_decimals_305 (by decide) ?_
                          refine lv_goto (tgt := 310) hx hb dX12_decimals_306 (by decide) ?_
                          exact J_310 1 (by (try simp only [if_neg c_295, if_pos c_302])) _ _ hP hD hS ls (lv_sub hl [0, 1, 2, 3, 4, 5, 6, 7] rfl)
                    · skip
                      refine lv_aload_n hx hb dX12_decimals_279 rfl (lv_at hl 0 rfl) ?_
                      refine lv_iload hx hb dX12_decimals_280 (lv_at hl 4 rfl) ?_
                      refine lv_iload_n hx hb dX12_decimals_282 rfl (lv_at hl 2 rfl) ?_
                      refine lv_iload_n hx hb dX12_decimals_283 rfl (lv_at hl 3 rfl) ?_
                      have hPc : va_P D vwCl (wX12_quotientOfDecimals cI cB a_mo a_mem a_mks a_mr a_cnt a_wd a_one a_two a_mmade a_mrest a_old v_thrown v_mask v_key v_wait v_problem v_code v_length v_cond v_masks v_addr v_mwanted g_155.1 v_after v_calls m_152.2.1 m_152.2.2.1 v_mF m_152.2.2.2.1 m_152.2.2.2.2 v_mmF v_resF v_oldF) H := hP.sub [0, 1, 3, 4, 5, 6, 7] rfl
                      have hDc : va_D A (wX12_quotientOfDecimals cI cB a_mo a_mem a_mks a_mr a_cnt a_wd a_one a_two a_mmade a_mrest a_old v_thrown v_mask v_key v_wait v_problem v_code v_length v_cond v_masks v_addr v_mwanted g_155.1 v_after v_calls m_152.2.1 m_152.2.2.1 v_mF m_152.2.2.2.1 m_152.2.2.2.2 v_mmF v_resF v_oldF) := hD.sub [0, 1, 3, 4, 5, 6, 7] (by decide) rfl
                      have hFc := va_free (wc := (wX12_quotientOfDecimals cI cB a_mo a_mem a_mks a_mr a_cnt a_wd a_one a_two a_mmade a_mrest a_old v_thrown v_mask v_key v_wait v_problem v_code v_length v_cond v_masks v_addr v_mwanted g_155.1 v_after v_calls m_152.2.1 m_152.2.2.1 v_mF m_152.2.2.2.1 m_152.2.2.2.2 v_mmF v_resF v_oldF)) hD hS hA [0, 1, 3, 4, 5, 6, 7] rfl
                      refine va_callv (va_runV (As := [.int x3, .int x1, .int x2]) (rest := []) ⟨hx, hb, hml, hown, hts⟩ (kX12_quotientOfDecimals l D cI cB a_mo a_mem a_mks a_mr a_cnt a_wd a_one a_two a_mmade a_mrest a_old H.size v_thrown v_mask v_key v_wait v_problem v_code v_length v_cond v_masks v_addr v_mwanted g_155.1 v_after v_calls m_152.2.1 m_152.2.2.1 v_mF m_152.2.2.2.1 m_152.2.2.2.2 v_mmF v_resF v_oldF x3 x1 x2 ⟨hm.1, dc_ml hu0 em_19 em_74 c_78 (Or.inr c_276), hl9.2⟩ hAB.1 (hdig.2 (by rw [c_276]; decide)) hdig.1) (cwV 3 hts (gd_V wd_986 wd_987 wd_988 wd_807 wd_910) rfl rfl rfl hdX12_quotientOfDecimals ⟨Nat.le_of_ble_eq_true rfl, Nat.le_of_ble_eq_true rfl⟩) (preV_std (ci := 12) (q0 := 0) hPc hK hDc hNW rfl rfl) rfl rfl hl.1 rfl (lv_room (Nat.le_of_ble_eq_true rfl)) dX12_decimals_284 ⟨Nat.zero_le _, Nat.zero_le _⟩) hS (fun q _ h => hFc q h) hFc (fun u_284 t9 H1 locs ht9 hvm9 hw9 hB9 hz9 hk9 hS => ?_)
                      have eu_284 : u_284 = fX12_quotientOfDecimals x3 x1 x2 g_155.1 m_152.2.1 m_152.2.2.1 v_mF m_152.2.2.2.1 m_152.2.2.2.2 v_mmF v_resF v_oldF := hw9
                      obtain ⟨hP, hD⟩ := back_std (w1 := (wX12_quotientOfDecimals cI cB a_mo a_mem a_mks a_mr a_cnt a_wd a_one a_two a_mmade a_mrest a_old v_thrown v_mask v_key v_wait v_problem v_code v_length v_cond v_masks v_addr v_mwanted u_284.1 v_after v_calls m_152.2.1 m_152.2.2.1 u_284.2.1 m_152.2.2.2.1 m_152.2.2.2.2 u_284.2.2.1 u_284.2.2.2.1 u_284.2.2.2.2)) (w2 := (wX12_decimals cI cB a_mo a_mem a_mks a_mr a_cnt a_wd a_one a_two a_mmade a_mrest a_old v_thrown v_mask v_key v_wait v_problem v_code v_length v_cond v_masks v_addr v_mwanted u_284.1 v_after v_calls m_152.2.1 m_152.2.2.1 u_284.2.1 v_mkF m_152.2.2.2.1 m_152.2.2.2.2 u_284.2.2.1 u_284.2.2.2.1 u_284.2.2.2.2)) (wr := [(a_mks, .inl (cI, 4, .inl v_mkF))]) hP hD [0, 1, 3, 4, 5, 6, 7] [2] [1, 2, 0, 3, 4, 5, 6, 7] rfl rfl (by decide) (by decide) hk9 hFc hB9 ht9 (by decide) rfl
                      clear hB9 hk9 hz9 hvm9 ht9 hFc hPc hDc
                      generalize H1 = H at hP hS ⊢
                      refine lv_goto (tgt := 330) hx hb dX12_decimals_287 (by decide) ?_
                      have hf9 : (v_cond, u_284.1, v_after, m_152.2.1, m_152.2.2.1, u_284.2.1, m_152.2.2.2.1, m_152.2.2.2.2, u_284.2.2.1, u_284.2.2.2.1, u_284.2.2.2.2) = fX12_decimals x0 x1 x2 x3 x4 v_key v_cond v_masks v_wrong v_after v_oneB v_twoB v_mF v_mkF v_oneF v_twoF v_mmF v_resF v_oldF := by simp only [fX12_decimals, ← em_19, ← em_39, ← eu_39, ← eu_49, ← em_74, ← eu_89, ← em_152, ← eg_155, ← eu_284]; (try simp only [if_pos c_78, if_pos c_197, if_neg c_205, if_neg c_258, if_pos c_276])
                      exact W.vret hx hb hr (fun t9 ht9 hW9 => ⟨⟨(v_cond, u_284.1, v_after, m_152.2.1, m_152.2.2.1, u_284.2.1, m_152.2.2.2.1, m_152.2.2.2.2, u_284.2.2.1, u_284.2.2.2.1, u_284.2.2.2.2), rfl, hf9, ⟨by rw [ht9]; exact hP, va_K.moved hW9.alike hK, hD⟩⟩, hS.F ht9⟩) hS.2.2 dX12_decimals_330
                  · skip
                    refine lv_aload_n hx hb dX12_decimals_261 rfl (lv_at hl 0 rfl) ?_
                    refine lv_iload hx hb dX12_decimals_262 (lv_at hl 4 rfl) ?_
                    refine lv_iload_n hx hb dX12_decimals_264 rfl (lv_at hl 2 rfl) ?_
                    refine lv_iload_n hx hb dX12_decimals_265 rfl (lv_at hl 3 rfl) ?_
                    have hPc : va_P D vwCl (wX12_productOfDecimals cI cB a_mo a_mem a_mks a_mr a_cnt a_wd a_one a_two a_mmade a_mrest a_old v_thrown v_mask v_key v_wait v_problem v_code v_length v_cond v_masks v_addr v_mwanted g_155.1 v_after v_calls m_152.2.1 m_152.2.2.1 v_mF m_152.2.2.2.1 m_152.2.2.2.2 v_mmF) H := hP.sub [0, 1, 3, 4, 5] rfl
                    have hDc : va_D A (wX12_productOfDecimals cI cB a_mo a_mem a_mks a_mr a_cnt a_wd a_one a_two a_mmade a_mrest a_old v_thrown v_mask v_key v_wait v_problem v_code v_length v_cond v_masks v_addr v_mwanted g_155.1 v_after v_calls m_152.2.1 m_152.2.2.1 v_mF m_152.2.2.2.1 m_152.2.2.2.2 v_mmF) := hD.sub [0, 1, 3, 4, 5] (by decide) rfl
                    have hFc := va_free (wc := (wX12_productOfDecimals cI cB a_mo a_mem a_mks a_mr a_cnt a_wd a_one a_two a_mmade a_mrest a_old v_thrown v_mask v_key v_wait v_problem v_code v_length v_cond v_masks v_addr v_mwanted g_155.1 v_after v_calls m_152.2.1 m_152.2.2.1 v_mF m_152.2.2.2.1 m_152.2.2.2.2 v_mmF)) hD hS hA [0, 1, 3, 4, 5] rfl
                    refine va_callv (va_runV (As := [.int x3, .int x1, .int x2]) (rest := []) ⟨hx, hb, hml, hown, hts⟩ (kX12_productOfDecimals l D cI cB a_mo a_mem a_mks a_mr a_cnt a_wd a_one a_two a_mmade a_mrest a_old H.size v_thrown v_mask v_key v_wait v_problem v_code v_length v_cond v_masks v_addr v_mwanted g_155.1 v_after v_calls m_152.2.1 m_152.2.2.1 v_mF m_152.2.2.2.1 m_152.2.2.2.2 v_mmF x3 x1 x2 hn1 hAB.1) (cwV 3 hts (gd_V wd_983 wd_984 wd_985 wd_807 wd_909) rfl rfl rfl hdX12_productOfDecimals ⟨Nat.le_of_ble_eq_true rfl, Nat.le_of_ble_eq_true rfl⟩) (preV_std (ci := 12) (q0 := 0) hPc hK hDc hNW rfl rfl) rfl rfl hl.1 rfl (lv_room (Nat.le_of_ble_eq_true rfl)) dX12_decimals_266 ⟨Nat.zero_le _, Nat.zero_le _⟩) hS (fun q _ h => hFc q h) hFc (fun u_266 t9 H1 locs ht9 hvm9 hw9 hB9 hz9 hk9 hS => ?_)
                    have eu_266 : u_266 = fX12_productOfDecimals x3 x1 x2 m_152.2.1 m_152.2.2.1 v_mF m_152.2.2.2.1 m_152.2.2.2.2 v_mmF := hw9
                    obtain ⟨hP, hD⟩ := back_std (w1 := (wX12_productOfDecimals cI cB a_mo a_mem a_mks a_mr a_cnt a_wd a_one a_two a_mmade a_mrest a_old v_thrown v_mask v_key v_wait v_problem v_code v_length v_cond v_masks v_addr v_mwanted g_155.1 v_after v_calls m_152.2.1 m_152.2.2.1 u_266.1 m_152.2.2.2.1 m_152.2.2.2.2 u_266.2)) (w2 := (wX12_decimals cI cB a_mo a_mem a_mks a_mr a_cnt a_wd a_one a_two a_mmade a_mrest a_old v_thrown v_mask v_key v_wait v_problem v_code v_length v_cond v_masks v_addr v_mwanted g_155.1 v_after v_calls m_152.2.1 m_152.2.2.1 u_266.1 v_mkF m_152.2.2.2.1 m_152.2.2.2.2 u_266.2 v_resF v_oldF)) (wr := [(a_mks, .inl (cI, 4, .inl v_mkF)), (a_mrest, .inl (cI, 80, .inl v_resF)), (a_old, .inl (cI, 512, .inl v_oldF))]) hP hD [0, 1, 3, 4, 5] [2, 6, 7] [3, 4, 0, 5, 6, 7, 1, 2] rfl rfl (by decide) (by decide) hk9 hFc hB9 ht9 (by decide) rfl
                    clear hB9 hk9 hz9 hvm9 ht9 hFc hPc hDc
                    generalize H1 = H at hP hS ⊢
                    refine lv_goto (tgt := 330) hx hb dX12_decimals_269 (by decide) ?_
                    have hf9 : (v_cond, g_155.1, v_after, m_152.2.1, m_152.2.2.1, u_266.1, m_152.2.2.2.1, m_152.2.2.2.2, u_266.2, v_resF, v_oldF) = fX12_decimals x0 x1 x2 x3 x4 v_key v_cond v_masks v_wrong v_after v_oneB v_twoB v_mF v_mkF v_oneF v_twoF v_mmF v_resF v_oldF := by simp only [fX12_decimals, ← em_19, ← em_39, ← eu_39, ← eu_49, ← em_74, ← eu_89, ← em_152, ← eg_155, ← eu_266]; (try simp only [if_pos c_78, if_pos c_197, if_neg c_205, if_pos c_258])
                    exact W.vret hx hb hr (fun t9 ht9 hW9 => ⟨⟨(v_cond, g_155.1, v_after, m_152.2.1, m_152.2.2.1, u_266.1, m_152.2.2.2.1, m_152.2.2.2.2, u_266.2, v_resF, v_oldF), rfl, hf9, ⟨by rw [ht9]; exact hP, va_K.moved hW9.alike hK, hD⟩⟩, hS.F ht9⟩) hS.2.2 dX12_decimals_330
                · skip
                  refine lv_iconst (v := 0) hx hb dX12_decimals_208 (by decide) ?_
                  refine lv_istore (lv' := [(7, .int 0), (0, .ref a_mo), (1, .int x0), (2, .int x1), (3, .int x2), (4, .int x3), (5, .int x4), (6, .int m_19)]) hx hb dX12_decimals_209 hl (by decide) rfl (fun ls hl => ?_)
                  obtain ⟨g_211, eg_211⟩ : ∃ z : ((Nat → Int32) × Int32), z = LX12_decimals_211 m_152 (msU 80 0 + 1) (v_mmF, 0) := ⟨_, rfl⟩
                  have K_211_0 : ∀ (H : Heap) (locs : List Loc), va_P D vwCl (wX12_decimals cI cB a_mo a_mem a_mks a_mr a_cnt a_wd a_one a_two a_mmade a_mrest a_old v_thrown v_mask v_key v_wait v_problem v_code v_length v_cond v_masks v_addr v_mwanted g_155.1 v_after v_calls m_152.2.1 m_152.2.2.1 v_mF v_mkF m_152.2.2.2.1 m_152.2.2.2.2 g_211.1 v_resF v_oldF) H → va_D A (wX12_decimals cI cB a_mo a_mem a_mks a_mr a_cnt a_wd a_one a_two a_mmade a_mrest a_old v_thrown v_mask v_key v_wait v_problem v_code v_length v_cond v_masks v_addr v_mwanted g_155.1 v_after v_calls m_152.2.1 m_152.2.2.1 v_mF v_mkF m_152.2.2.2.1 m_152.2.2.2.2 g_211.1 v_resF v_oldF) → va_S A s.heap H locs → ∀ (ls : Array Slot), lv_has ls 9 [(0, .ref a_mo), (1, .int x0), (2, .int x1), (3, .int x2), (4, .int x3), (5, .int x4), (6, .int m_19), (7, .int g_211.2)] → W p l e rmX12_decimals s m ([.ref a_mo, .int x0, .int x1, .int x2, .int x3, .int x4] : List Value).toArray below meth c H locs 0 0 (MQ below (qX12_decimals D cI cB a_mo a_mem a_mks a_mr a_cnt a_wd a_one a_two a_mmade a_mrest a_old v_thrown v_mask v_key v_wait v_problem v_code v_length v_cond v_masks v_addr v_mwanted v_wrong v_after v_calls v_oneB v_twoB v_mF v_mkF v_oneF v_twoF v_mmF v_resF v_oldF x0 x1 x2 x3 x4 A) ([.ref a_mo, .int x0, .int x1, .int x2, .int x3, .int x4] : List Value).toArray s 0 0 A) (F0 m 238 ls []) := by
                    intro H locs hP hD hS ls hl
                    refine lv_aload_n hx hb dX12_decimals_238 rfl (lv_at hl 0 rfl) ?_
                    refine lv_iload hx hb dX12_decimals_239 (lv_at hl 4 rfl) ?_
                    refine lv_iload_n hx hb dX12_decimals_241 rfl (lv_at hl 2 rfl) ?_
                    refine lv_iconst (v := 1) hx hb dX12_decimals_242 (by decide) ?_
                    refine lv_iadd hx hb dX12_decimals_243 ?_
                    refine lv_aload_n hx hb dX12_decimals_244 rfl (lv_at hl 0 rfl) ?_
                    refine va_get (D := D) (ci := 12) (v := .int m_152.2.2.1) (C := RX12) (T := TX12) (N := 26) hx hb hts in_X12 hown hK hP 0 rfl rfl 22 (by decide) q_4 (fun _ h9 => h9) rfl dX12_decimals_245 ?_
                    have hPc : va_P D vwCl (wX12_afterDecimal cI cB a_mo a_mem a_mks a_mr a_cnt a_wd a_one a_two a_mmade a_mrest a_old v_thrown v_mask v_key v_wait v_problem v_code v_length v_cond v_masks v_addr v_mwanted g_155.1 v_after v_calls m_152.2.1 m_152.2.2.1 v_mF g_211.1) H := hP.sub [0, 1, 5] rfl
                    have hDc : va_D A (wX12_afterDecimal cI cB a_mo a_mem a_mks a_mr a_cnt a_wd a_one a_two a_mmade a_mrest a_old v_thrown v_mask v_key v_wait v_problem v_code v_length v_cond v_masks v_addr v_mwanted g_155.1 v_after v_calls m_152.2.1 m_152.2.2.1 v_mF g_211.1) := hD.sub [0, 1, 5] (by decide) rfl
                    have hFc := va_free (wc := (wX12_afterDecimal cI cB a_mo a_mem a_mks a_mr a_cnt a_wd a_one a_two a_mmade a_mrest a_old v_thrown v_mask v_key v_wait v_problem v_code v_length v_cond v_masks v_addr v_mwanted g_155.1 v_after v_calls m_152.2.1 m_152.2.2.1 v_mF g_211.1)) hD hS hA [0, 1, 5] rfl
                    refine va_callv (va_runV (As := [.int x3, .int (x1 + 1), .int m_152.2.2.1]) (rest := []) ⟨hx, hb, hml, hown, hts⟩ (kX12_afterDecimal l D cI cB a_mo a_mem a_mks a_mr a_cnt a_wd a_one a_two a_mmade a_mrest a_old H.size v_thrown v_mask v_key v_wait v_problem v_code v_length v_cond v_masks v_addr v_mwanted g_155.1 v_after v_calls m_152.2.1 m_152.2.2.1 v_mF g_211.1 x3 (x1 + 1) m_152.2.2.1 hn1 hAB.1) (cwV 3 hts (gd_V wd_905 wd_906 wd_907 wd_807 wd_894) rfl rfl rfl hdX12_afterDecimal ⟨Nat.le_of_ble_eq_true rfl, Nat.le_of_ble_eq_true rfl⟩) (preV_std (ci := 12) (q0 := 0) hPc hK hDc hNW rfl rfl) rfl rfl hl.1 rfl (lv_room (Nat.le_of_ble_eq_true rfl)) dX12_decimals_248 ⟨Nat.zero_le _, Nat.zero_le _⟩) hS (fun q _ h => hFc q h) hFc (fun u_248 t9 H1 locs ht9 hvm9 hw9 hB9 hz9 hk9 hS => ?_)
                    have eu_248 : u_248 = fX12_afterDecimal x3 (x1 + 1) m_152.2.2.1 v_cond v_masks v_after v_mF g_211.1 := hw9
                    obtain ⟨hP, hD⟩ := back_std (w1 := (wX12_afterDecimal cI cB a_mo a_mem a_mks a_mr a_cnt a_wd a_one a_two a_mmade a_mrest a_old v_thrown v_mask v_key v_wait v_problem v_code v_length u_248.1 v_masks v_addr v_mwanted g_155.1 u_248.2.1 v_calls m_152.2.1 m_152.2.2.1 u_248.2.2 g_211.1)) (w2 := (wX12_decimals cI cB a_mo a_mem a_mks a_mr a_cnt a_wd a_one a_two a_mmade a_mrest a_old v_thrown v_mask v_key v_wait v_problem v_code v_length u_248.1 v_masks v_addr v_mwanted g_155.1 u_248.2.1 v_calls m_152.2.1 m_152.2.2.1 u_248.2.2 v_mkF m_152.2.2.2.1 m_152.2.2.2.2 g_211.1 v_resF v_oldF)) (wr := [(a_mks, .inl (cI, 4, .inl v_mkF)), (a_one, .inl (cI, 80, .inl m_152.2.2.2.1)), (a_two, .inl (cI, 80, .inl m_152.2.2.2.2)), (a_mrest, .inl (cI, 80, .inl v_resF)), (a_old, .inl (cI, 512, .inl v_oldF))]) hP hD [0, 1, 5] [2, 3, 4, 6, 7] [5, 6, 0, 1, 2, 7, 3, 4] rfl rfl (by decide) (by decide) hk9 hFc hB9 ht9 (by decide) rfl
                    clear hB9 hk9 hz9 hvm9 ht9 hFc hPc hDc
                    generalize H1 = H at hP hS ⊢
                    refine lv_goto (tgt := 330) hx hb dX12_decimals_251 (by decide) ?_
                    have hf9 : (u_248.1, g_155.1, u_248.2.1, m_152.2.1, m_152.2.2.1, u_248.2.2, m_152.2.2.2.1, m_152.2.2.2.2, g_211.1, v_resF, v_oldF) = fX12_decimals x0 x1 x2 x3 x4 v_key v_cond v_masks v_wrong v_after v_oneB v_twoB v_mF v_mkF v_oneF v_twoF v_mmF v_resF v_oldF := by simp only [fX12_decimals, ← em_19, ← em_39, ← eu_39, ← eu_49, ← em_74, ← eu_89, ← em_152, ← eg_155, ← eg_211, ← eu_248]; (try simp only [if_pos c_78, if_pos c_197, if_pos c_205])
                    exact W.vret hx hb hr (fun t9 ht9 hW9 => ⟨⟨(u_248.1, g_155.1, u_248.2.1, m_152.2.1, m_152.2.2.1, u_248.2.2, m_152.2.2.2.1, m_152.2.2.2.2, g_211.1, v_resF, v_oldF), rfl, hf9, ⟨by rw [ht9]; exact hP, va_K.moved hW9.alike hK, hD⟩⟩, hS.F ht9⟩) hS.2.2 dX12_decimals_330
                  have lp_211 : ∀ (n9 : Nat) (w_211 : ((Nat → Int32) × Int32)), msU 80 w_211.2 < n9 → 0 ≤ w_211.2 → LX12_decimals_211 m_152 n9 w_211 = g_211 → ∀ (H : Heap) (locs : List Loc), va_P D vwCl (wX12_decimals cI cB a_mo a_mem a_mks a_mr a_cnt a_wd a_one a_two a_mmade a_mrest a_old v_thrown v_mask v_key v_wait v_problem v_code v_length v_cond v_masks v_addr v_mwanted g_155.1 v_after v_calls m_152.2.1 m_152.2.2.1 v_mF v_mkF m_152.2.2.2.1 m_152.2.2.2.2 w_211.1 v_resF v_oldF) H → va_D A (wX12_decimals cI cB a_mo a_mem a_mks a_mr a_cnt a_wd a_one a_two a_mmade a_mrest a_old v_thrown v_mask v_key v_wait v_problem v_code v_length v_cond v_masks v_addr v_mwanted g_155.1 v_after v_calls m_152.2.1 m_152.2.2.1 v_mF v_mkF m_152.2.2.2.1 m_152.2.2.2.2 w_211.1 v_resF v_oldF) → va_S A s.heap H locs → ∀ (ls : Array Slot), lv_has ls 9 [(0, .ref a_mo), (1, .int x0), (2, .int x1), (3, .int x2), (4, .int x3), (5, .int x4), (6, .int m_19), (7, .int w_211.2)] → W p l e rmX12_decimals s m ([.ref a_mo, .int x0, .int x1, .int x2, .int x3, .int x4] : List Value).toArray below meth c H locs 0 0 (MQ below (qX12_decimals D cI cB a_mo a_mem a_mks a_mr a_cnt a_wd a_one a_two a_mmade a_mrest a_old v_thrown v_mask v_key v_wait v_problem v_code v_length v_cond v_masks v_addr v_mwanted v_wrong v_after v_calls v_oneB v_twoB v_mF v_mkF v_oneF v_twoF v_mmF v_resF v_oldF x0 x1 x2 x3 x4 A) ([.ref a_mo, .int x0, .int x1, .int x2, .int x3, .int x4] : List Value).toArray s 0 0 A) (F0 m 211 ls []) := by
                    intro n9
                    induction n9 with
                    | zero => intro w_211 hm9; exact absurd hm9 (Nat.not_lt_zero _)
                    | succ n9 ih =>
                      intro w_211 hm9 hI9 hL9 H locs hP hD hS ls hl
                      have hI_211 := hI9
                      refine lv_iload hx hb dX12_decimals_211 (lv_at hl 7 rfl) ?_
                      refine lv_bipush (v := 80) hx hb dX12_decimals_213 (by decide) ?_
                      refine lv_icmp_ge (tgt := 238) hx hb dX12_decimals_215 (by decide) (fun c_215 => ?_) (fun c_215 => ?_)
                      · skip
                        have hg9 : (w_211.1, w_211.2) = g_211 := by rw [← hL9]; simp only [LX12_decimals_211]; (try simp only [if_pos c_215])
                        subst hg9
                        exact K_211_0 _ _ hP hD hS ls (lv_sub hl [0, 1, 2, 3, 4, 5, 6, 7] rfl)
                      · skip
                        refine lv_aload_n hx hb dX12_decimals_218 rfl (lv_at hl 0 rfl) ?_
                        refine va_get (D := D) (ci := 12) (v := .ref a_mmade) (C := RX12) (T := TX12) (N := 26) hx hb hts in_X12 hown hK hP 0 rfl rfl 23 (by decide) q_2 (fun _ h9 => h9) rfl dX12_decimals_219 ?_
                        refine lv_iload hx hb dX12_decimals_222 (lv_at hl 7 rfl) ?_
                        refine lv_aload_n hx hb dX12_decimals_224 rfl (lv_at hl 0 rfl) ?_
                        refine va_get (D := D) (ci := 12) (v := .ref a_two) (C := RX12) (T := TX12) (N := 26) hx hb hts in_X12 hown hK hP 0 rfl rfl 21 (by decide) q_3 (fun _ h9 => h9) rfl dX12_decimals_225 ?_
                        refine lv_iload hx hb dX12_decimals_228 (lv_at hl 7 rfl) ?_
                        refine va_iald hx hb hK hP 4 0 rfl rfl (by first | with_reducible assumption | exact vin_of (b := 80) (by decide) (by with_reducible assumption) (by with_reducible assumption) | exact vin_of (b := 80) (by decide) (Int32.not_lt.mp (by with_reducible assumption)) (by with_reducible assumption) | exact vin_dn (by decide) (by with_reducible assumption) hI9) dX12_decimals_230 ?_
                        refine va_iast hx hb hK hP hD hS 5 0 rfl rfl (by first | with_reducible assumption | exact vin_of (b := 80) (by decide) (by with_reducible assumption) (by with_reducible assumption) | exact vin_of (b := 80) (by decide) (Int32.not_lt.mp (by with_reducible assumption)) (by with_reducible assumption) | exact vin_dn (by decide) (by with_reducible assumption) hI9) dX12_decimals_231 (fun H locs hP hD hS => ?_)
                        obtain ⟨f_231, ef_231⟩ : ∃ z : Nat → Int32, z = upd w_211.1 (w_211.2 : Int32).toNatClampNeg ((m_152.2.2.2.2 (w_211.2 : Int32).toNatClampNeg)) := ⟨_, rfl⟩
                        have hP : va_P D vwCl (wX12_decimals cI cB a_mo a_mem a_mks a_mr a_cnt a_wd a_one a_two a_mmade a_mrest a_old v_thrown v_mask v_key v_wait v_problem v_code v_length v_cond v_masks v_addr v_mwanted g_155.1 v_after v_calls m_152.2.1 m_152.2.2.1 v_mF v_mkF m_152.2.2.2.1 m_152.2.2.2.2 (upd w_211.1 (w_211.2 : Int32).toNatClampNeg ((m_152.2.2.2.2 (w_211.2 : Int32).toNatClampNeg))) v_resF v_oldF) H := hP
                        have hD : va_D A (wX12_decimals cI cB a_mo a_mem a_mks a_mr a_cnt a_wd a_one a_two a_mmade a_mrest a_old v_thrown v_mask v_key v_wait v_problem v_code v_length v_cond v_masks v_addr v_mwanted g_155.1 v_after v_calls m_152.2.1 m_152.2.2.1 v_mF v_mkF m_152.2.2.2.1 m_152.2.2.2.2 (upd w_211.1 (w_211.2 : Int32).toNatClampNeg ((m_152.2.2.2.2 (w_211.2 : Int32).toNatClampNeg))) v_resF v_oldF) := hD
                        rw [← ef_231] at hP hD
                        obtain ⟨x_232, ex_232⟩ : ∃ z : Int32, z = w_211.2 + 1 := ⟨_, rfl⟩
                        refine lv_iinc (v := x_232) (lv' := [(7, .int x_232), (0, .ref a_mo), (1, .int x0), (2, .int x1), (3, .int x2), (4, .int x3), (5, .int x4), (6, .int m_19)]) hx hb dX12_decimals_232 hl (k := 7) rfl (by rw [ex_232]; rfl) (by decide) rfl (fun ls hl => ?_)
                        refine lv_goto (tgt := 211) hx hb dX12_decimals_235 (by decide) ?_
                        exact ih (f_231, x_232) (by subst ex_232; subst ef_231;  exact Nat.lt_of_lt_of_le (ms_up c_215) (Nat.le_of_lt_succ hm9)) (by subst ex_232; subst ef_231;  exact nn_up hI9 c_215) (by rw [← hL9]; subst ex_232; subst ef_231; simp only [LX12_decimals_211]; (try simp only [if_neg c_215])) _ _ hP hD hS ls (lv_sub hl [1, 2, 3, 4, 5, 6, 7, 0] rfl)
                  exact lp_211 (msU 80 0 + 1) (v_mmF, 0) (Nat.lt_succ_self _) (by show (0 : Int32) ≤ 0; decide) eg_211.symm _ _ hP hD hS ls (lv_sub hl [1, 2, 3, 4, 5, 6, 7, 0] rfl)
              · skip
                have hf9 : (v_cond, g_155.1, v_after, m_152.2.1, m_152.2.2.1, v_mF, m_152.2.2.2.1, m_152.2.2.2.2, v_mmF, v_resF, v_oldF) = fX12_decimals x0 x1 x2 x3 x4 v_key v_cond v_masks v_wrong v_after v_oneB v_twoB v_mF v_mkF v_oneF v_twoF v_mmF v_resF v_oldF := by simp only [fX12_decimals, ← em_19, ← em_39, ← eu_39, ← eu_49, ← em_74, ← eu_89, ← em_152, ← eg_155]; (try simp only [if_pos c_78, if_neg c_197])
                exact W.vret hx hb hr (fun t9 ht9 hW9 => ⟨⟨(v_cond, g_155.1, v_after, m_152.2.1, m_152.2.2.1, v_mF, m_152.2.2.2.1, m_152.2.2.2.2, v_mmF, v_resF, v_oldF), rfl, hf9, ⟨by rw [ht9]; exact hP, va_K.moved hW9.alike hK, hD⟩⟩, hS.F ht9⟩) hS.2.2 dX12_decimals_200
            have lp_155 : ∀ (n9 : Nat) (w_155 : (Int32 × Int32)), msU (x2 + 1) w_155.2 < n9 → 0 ≤ w_155.2 → LX12_decimals_155 x0 x2 x3 v_mF n9 w_155 = g_155 → ∀ (H : Heap) (locs : List Loc), va_P D vwCl (wX12_decimals cI cB a_mo a_mem a_mks a_mr a_cnt a_wd a_one a_two a_mmade a_mrest a_old v_thrown v_mask v_key v_wait v_problem v_code v_length v_cond v_masks v_addr v_mwanted w_155.1 v_after v_calls m_152.2.1 m_152.2.2.1 v_mF v_mkF m_152.2.2.2.1 m_152.2.2.2.2 v_mmF v_resF v_oldF) H → va_D A (wX12_decimals cI cB a_mo a_mem a_mks a_mr a_cnt a_wd a_one a_two a_mmade a_mrest a_old v_thrown v_mask v_key v_wait v_problem v_code v_length v_cond v_masks v_addr v_mwanted w_155.1 v_after v_calls m_152.2.1 m_152.2.2.1 v_mF v_mkF m_152.2.2.2.1 m_152.2.2.2.2 v_mmF v_resF v_oldF) → va_S A s.heap H locs → ∀ (ls : Array Slot), lv_has ls 9 [(0, .ref a_mo), (1, .int x0), (2, .int x1), (3, .int x2), (4, .int x3), (5, .int x4), (6, .int m_19), (7, .int w_155.2)] → W p l e rmX12_decimals s m ([.ref a_mo, .int x0, .int x1, .int x2, .int x3, .int x4] : List Value).toArray below meth c H locs 0 0 (MQ below (qX12_decimals D cI cB a_mo a_mem a_mks a_mr a_cnt a_wd a_one a_two a_mmade a_mrest a_old v_thrown v_mask v_key v_wait v_problem v_code v_length v_cond v_masks v_addr v_mwanted v_wrong v_after v_calls v_oneB v_twoB v_mF v_mkF v_oneF v_twoF v_mmF v_resF v_oldF x0 x1 x2 x3 x4 A) ([.ref a_mo, .int x0, .int x1, .int x2, .int x3, .int x4] : List Value).toArray s 0 0 A) (F0 m 155 ls []) := by
              intro n9
              induction n9 with
              | zero => intro w_155 hm9; exact absurd hm9 (Nat.not_lt_zero _)
              | succ n9 ih =>
                intro w_155 hm9 hI9 hL9 H locs hP hD hS ls hl
                have hI_155 := hI9
                refine lv_iload hx hb dX12_decimals_155 (lv_at hl 7 rfl) ?_
                refine lv_iload_n hx hb dX12_decimals_157 rfl (lv_at hl 3 rfl) ?_
                refine lv_icmp_gt (tgt := 193) hx hb dX12_decimals_158 (by decide) (fun c_158 => ?_) (fun c_158 => ?_)
                · skip
                  have hg9 : (w_155.1, w_155.2) = g_155 := by rw [← hL9]; simp only [LX12_decimals_155]; (try simp only [if_pos c_158])
                  subst hg9
                  exact K_155_0 _ _ hP hD hS ls (lv_sub hl [0, 1, 2, 3, 4, 5, 6, 7] rfl)
                · skip
                  refine lv_iload_n hx hb dX12_decimals_161 rfl (lv_at hl 1 rfl) ?_
                  refine lv_sipush (v := 252) hx hb dX12_decimals_162 (by decide) ?_
                  refine lv_icmp_ne (tgt := 193) hx hb dX12_decimals_165 (by decide) (fun c_165 => ?_) (fun c_165 => ?_)
                  · skip
                    have hg9 : (w_155.1, w_155.2) = g_155 := by rw [← hL9]; simp only [LX12_decimals_155]; (try simp only [if_neg c_158, if_neg c_165])
                    subst hg9
                    exact K_155_0 _ _ hP hD hS ls (lv_sub hl [0, 1, 2, 3, 4, 5, 6, 7] rfl)
                  · skip
                    refine lv_aload_n hx hb dX12_decimals_168 rfl (lv_at hl 0 rfl) ?_
                    refine va_get (D := D) (ci := 12) (v := .ref a_mem) (C := RX12) (T := TX12) (N := 26) hx hb hts in_X12 hown hK hP 0 rfl rfl 1 (by decide) q_1 (fun _ h9 => h9) rfl dX12_decimals_169 ?_
                    refine lv_iload hx hb dX12_decimals_172 (lv_at hl 4 rfl) ?_
                    refine lv_iload hx hb dX12_decimals_174 (lv_at hl 7 rfl) ?_
                    refine lv_iadd hx hb dX12_decimals_176 ?_
                    refine va_iald hx hb hK hP 1 0 rfl rfl (at_le hAB.1 hl9 (Int.le_of_lt (dc_ml hu0 em_19 em_74 c_78 (Or.inl c_165))) hI9 c_158) dX12_decimals_177 ?_
                    have J_187 : ∀ (m_187 : Int32), m_187 = (if (v_mF ((x3 + w_155.2) : Int32).toNatClampNeg) = 0 then (w_155.1) else (let u_184 := fX12_meet 7 w_155.1; u_184)) → ∀ (H : Heap) (locs : List Loc), va_P D vwCl (wX12_decimals cI cB a_mo a_mem a_mks a_mr a_cnt a_wd a_one a_two a_mmade a_mrest a_old v_thrown v_mask v_key v_wait v_problem v_code v_length v_cond v_masks v_addr v_mwanted m_187 v_after v_calls m_152.2.1 m_152.2.2.1 v_mF v_mkF m_152.2.2.2.1 m_152.2.2.2.2 v_mmF v_resF v_oldF) H → va_D A (wX12_decimals cI cB a_mo a_mem a_mks a_mr a_cnt a_wd a_one a_two a_mmade a_mrest a_old v_thrown v_mask v_key v_wait v_problem v_code v_length v_cond v_masks v_addr v_mwanted m_187 v_after v_calls m_152.2.1 m_152.2.2.1 v_mF v_mkF m_152.2.2.2.1 m_152.2.2.2.2 v_mmF v_resF v_oldF) → va_S A s.heap H locs → ∀ (ls : Array Slot), lv_has ls 9 [(0, .ref a_mo), (1, .int x0), (2, .int x1), (3, .int x2), (4, .int x3), (5, .int x4), (6, .int m_19), (7, .int w_155.2)] → W p l e rmX12_decimals s m ([.ref a_mo, .int x0, .int x1, .int x2, .int x3, .int x4] : List Value).toArray below meth c H locs 0 0 (MQ below (qX12_decimals D cI cB a_mo a_mem a_mks a_mr a_cnt a_wd a_one a_two a_mmade a_mrest a_old v_thrown v_mask v_key v_wait v_problem v_code v_length v_cond v_masks v_addr v_mwanted v_wrong v_after v_calls v_oneB v_twoB v_mF v_mkF v_oneF v_twoF v_mmF v_resF v_oldF x0 x1 x2 x3 x4 A) ([.ref a_mo, .int x0, .int x1, .int x2, .int x3, .int x4] : List Value).toArray s 0 0 A) (F0 m 187 ls []) := by
                      intro m_187 em_187 H locs hP hD hS ls hl
                      try dsimp only at em_187
                      obtain ⟨x_187, ex_187⟩ : ∃ z : Int32, z = w_155.2 + 1 := ⟨_, rfl⟩
                      refine lv_iinc (v := x_187) (lv' := [(7, .int x_187), (0, .ref a_mo), (1, .int x0), (2, .int x1), (3, .int x2), (4, .int x3), (5, .int x4), (6, .int m_19)]) hx hb dX12_decimals_187 hl (k := 7) rfl (by rw [ex_187]; rfl) (by decide) rfl (fun ls hl => ?_)
                      refine lv_goto (tgt := 155) hx hb dX12_decimals_190 (by decide) ?_
                      exact ih (m_187, x_187) (by subst ex_187; subst em_187; exact Nat.lt_of_lt_of_le (ms_le (Int.le_trans hm.2 (by decide)) hI9 c_158) (Nat.le_of_lt_succ hm9)) (by subst ex_187; subst em_187; exact nn_le (Int.le_trans hm.2 (by decide)) hI9 c_158) (by rw [← hL9]; subst ex_187; simp only [LX12_decimals_155, ← em_187]; (try simp only [if_neg c_158, if_pos c_165])) _ _ hP hD hS ls (lv_sub hl [1, 2, 3, 4, 5, 6, 7, 0] rfl)
                    refine lv_if_eq (tgt := 187) hx hb dX12_decimals_178 (by decide) (fun c_178 => ?_) (fun c_178 => ?_)
                    · skip
                      exact J_187 w_155.1 (by (try simp only [if_pos c_178])) _ _ hP hD hS ls (lv_sub hl [0, 1, 2, 3, 4, 5, 6, 7] rfl)
                    · skip
                      refine lv_aload_n hx hb dX12_decimals_181 rfl (lv_at hl 0 rfl) ?_
                      refine lv_bipush (v := 7) hx hb dX12_decimals_182 (by decide) ?_
                      have hPc : va_P D vwCl (wX12_meet cI cB a_mo a_mem a_mks a_mr a_cnt a_wd a_one a_two a_mmade a_mrest a_old v_thrown v_mask v_key v_wait v_problem v_code v_length v_cond v_masks v_addr v_mwanted w_155.1 v_after v_calls m_152.2.1 m_152.2.2.1) H := hP.sub [0] rfl
                      have hDc : va_D A (wX12_meet cI cB a_mo a_mem a_mks a_mr a_cnt a_wd a_one a_two a_mmade a_mrest a_old v_thrown v_mask v_key v_wait v_problem v_code v_length v_cond v_masks v_addr v_mwanted w_155.1 v_after v_calls m_152.2.1 m_152.2.2.1) := hD.sub [0] (by decide) rfl
                      have hFc := va_free (wc := (wX12_meet cI cB a_mo a_mem a_mks a_mr a_cnt a_wd a_one a_two a_mmade a_mrest a_old v_thrown v_mask v_key v_wait v_problem v_code v_length v_cond v_masks v_addr v_mwanted w_155.1 v_after v_calls m_152.2.1 m_152.2.2.1)) hD hS hA [0] rfl
                      refine va_callv (va_runV (As := [.int 7]) (rest := []) ⟨hx, hb, hml, hown, hts⟩ (kX12_meet l D cI cB a_mo a_mem a_mks a_mr a_cnt a_wd a_one a_two a_mmade a_mrest a_old H.size v_thrown v_mask v_key v_wait v_problem v_code v_length v_cond v_masks v_addr v_mwanted w_155.1 v_after v_calls m_152.2.1 m_152.2.2.1 7) (cwV 1 hts (gd_V wd_838 wd_839 wd_840 wd_807 wd_835) rfl rfl rfl hdX12_meet ⟨Nat.le_of_ble_eq_true rfl, Nat.le_of_ble_eq_true rfl⟩) (preV_std (ci := 12) (q0 := 0) hPc hK hDc hNW rfl rfl) rfl rfl hl.1 rfl (lv_room (Nat.le_of_ble_eq_true rfl)) dX12_decimals_184 ⟨Nat.zero_le _, Nat.zero_le _⟩) hS (fun q _ h => hFc q h) hFc (fun u_184 t9 H1 locs ht9 hvm9 hw9 hB9 hz9 hk9 hS => ?_)
                      have eu_184 : u_184 = fX12_meet 7 w_155.1 := hw9
                      obtain ⟨hP, hD⟩ := back_std (w1 := (wX12_meet cI cB a_mo a_mem a_mks a_mr a_cnt a_wd a_one a_two a_mmade a_mrest a_old v_thrown v_mask v_key v_wait v_problem v_code v_length v_cond v_masks v_addr v_mwanted u_184 v_after v_calls m_152.2.1 m_152.2.2.1)) (w2 := (wX12_decimals cI cB a_mo a_mem a_mks a_mr a_cnt a_wd a_one a_two a_mmade a_mrest a_old v_thrown v_mask v_key v_wait v_problem v_code v_length v_cond v_masks v_addr v_mwanted u_184 v_after v_calls m_152.2.1 m_152.2.2.1 v_mF v_mkF m_152.2.2.2.1 m_152.2.2.2.2 v_mmF v_resF v_oldF)) (wr := [(a_mem, .inl (cI, 8192, .inl v_mF)), (a_mks, .inl (cI, 4, .inl v_mkF)), (a_one, .inl (cI, 80, .inl m_152.2.2.2.1)), (a_two, .inl (cI, 80, .inl m_152.2.2.2.2)), (a_mmade, .inl (cI, 80, .inl v_mmF)), (a_mrest, .inl (cI, 80, .inl v_resF)), (a_old, .inl (cI, 512, .inl v_oldF))]) hP hD [0] [1, 2, 3, 4, 5, 6, 7] [7, 0, 1, 2, 3, 4, 5, 6] rfl rfl (by decide) (by decide) hk9 hFc hB9 ht9 (by decide) rfl
                      clear hB9 hk9 hz9 hvm9 ht9 hFc hPc hDc
                      generalize H1 = H at hP hS ⊢
                      exact J_187 u_184 (by (try simp only [← eu_184]); (try simp only [if_neg c_178])) _ _ hP hD hS ls (lv_sub hl [0, 1, 2, 3, 4, 5, 6, 7] rfl)
            exact lp_155 (msU (x2 + 1) 0 + 1) (m_152.1, 0) (Nat.lt_succ_self _) (by show (0 : Int32) ≤ 0; decide) eg_155.symm _ _ hP hD hS ls (lv_sub hl [1, 2, 3, 4, 5, 6, 7, 0] rfl)
          refine lv_icmp_eq (tgt := 152) hx hb dX12_decimals_96 (by decide) (fun c_96 => ?_) (fun c_96 => ?_)
          · skip
            exact J_152 (u_89.1, u_89.2.1, u_89.2.2.1, u_89.2.2.2.1, u_89.2.2.2.2) (by (try simp only [if_pos c_96])) _ _ hP hD hS ls (lv_sub hl [0, 1, 2, 3, 4, 5, 6] rfl)
          · skip
            refine lv_aload_n hx hb dX12_decimals_99 rfl (lv_at hl 0 rfl) ?_
            refine va_get (D := D) (ci := 12) (v := .int u_89.1) (C := RX12) (T := TX12) (N := 26) hx hb hts in_X12 hown hK hP 0 rfl rfl 16 (by decide) q_0 (fun _ h9 => h9) rfl dX12_decimals_100 ?_
            have J_111 : ∀ (m_111 : Int32), m_111 = (if u_89.1 ≤ 0 then (0) else (1)) → ∀ (H : Heap) (locs : List Loc), va_P D vwCl (wX12_decimals cI cB a_mo a_mem a_mks a_mr a_cnt a_wd a_one a_two a_mmade a_mrest a_old v_thrown v_mask v_key v_wait v_problem v_code v_length v_cond v_masks v_addr v_mwanted u_89.1 v_after v_calls u_89.2.1 u_89.2.2.1 v_mF v_mkF u_89.2.2.2.1 u_89.2.2.2.2 v_mmF v_resF v_oldF) H → va_D A (wX12_decimals cI cB a_mo a_mem a_mks a_mr a_cnt a_wd a_one a_two a_mmade a_mrest a_old v_thrown v_mask v_key v_wait v_problem v_code v_length v_cond v_masks v_addr v_mwanted u_89.1 v_after v_calls u_89.2.1 u_89.2.2.1 v_mF v_mkF u_89.2.2.2.1 u_89.2.2.2.2 v_mmF v_resF v_oldF) → va_S A s.heap H locs → ∀ (ls : Array Slot), lv_has ls 9 [(0, .ref a_mo), (1, .int x0), (2, .int x1), (3, .int x2), (4, .int x3), (5, .int x4), (6, .int m_19)] → W p l e rmX12_decimals s m ([.ref a_mo, .int x0, .int x1, .int x2, .int x3, .int x4] : List Value).toArray below meth c H locs 0 0 (MQ below (qX12_decimals D cI cB a_mo a_mem a_mks a_mr a_cnt a_wd a_one a_two a_mmade a_mrest a_old v_thrown v_mask v_key v_wait v_problem v_code v_length v_cond v_masks v_addr v_mwanted v_wrong v_after v_calls v_oneB v_twoB v_mF v_mkF v_oneF v_twoF v_mmF v_resF v_oldF x0 x1 x2 x3 x4 A) ([.ref a_mo, .int x0, .int x1, .int x2, .int x3, .int x4] : List Value).toArray s 0 0 A) (F0 m 111 ls [.int m_111]) := by
              intro m_111 em_111 H locs hP hD hS ls hl
              try dsimp only at em_111
              have zm_111_0 : m_111 = 0 ∨ m_111 = 1 := by rw [em_111]; (try dsimp only); (repeat' split) <;> first | exact Or.inl rfl | exact Or.inr rfl
              refine lv_istore (lv' := [(7, .int m_111), (0, .ref a_mo), (1, .int x0), (2, .int x1), (3, .int x2), (4, .int x3), (5, .int x4), (6, .int m_19)]) hx hb dX12_decimals_111 hl (by decide) rfl (fun ls hl => ?_)
              refine lv_aload_n hx hb dX12_decimals_113 rfl (lv_at hl 1 rfl) ?_
              refine va_get (D := D) (ci := 12) (v := .int u_89.1) (C := RX12) (T := TX12) (N := 26) hx hb hts in_X12 hown hK hP 0 rfl rfl 16 (by decide) q_0 (fun _ h9 => h9) rfl dX12_decimals_114 ?_
              refine lv_istore (lv' := [(8, .int u_89.1), (7, .int m_111), (0, .ref a_mo), (1, .int x0), (2, .int x1), (3, .int x2), (4, .int x3), (5, .int x4), (6, .int m_19)]) hx hb dX12_decimals_117 hl (by decide) rfl (fun ls hl => ?_)
              refine lv_aload_n hx hb dX12_decimals_119 rfl (lv_at hl 2 rfl) ?_
              refine lv_iconst (v := 0) hx hb dX12_decimals_120 (by decide) ?_
              refine va_put (D := D) (ci := 12) (v := .int 0) (ty := .int) (C := RX12) (T := TX12) (N := 26) hx hb hts in_X12 tyX12 tyX12_ok nmX12 hown hK hP hD hS 0 rfl rfl 16 (by decide) q_0 (fun _ h9 => h9) rfl (by decide +kernel) rfl rfl (Nat.le_of_ble_eq_true rfl) dX12_decimals_121 (fun H locs hP hD hS => ?_)
              have hP : va_P D vwCl (wX12_decimals cI cB a_mo a_mem a_mks a_mr a_cnt a_wd a_one a_two a_mmade a_mrest a_old v_thrown v_mask v_key v_wait v_problem v_code v_length v_cond v_masks v_addr v_mwanted 0 v_after v_calls u_89.2.1 u_89.2.2.1 v_mF v_mkF u_89.2.2.2.1 u_89.2.2.2.2 v_mmF v_resF v_oldF) H := hP
              have hD : va_D A (wX12_decimals cI cB a_mo a_mem a_mks a_mr a_cnt a_wd a_one a_two a_mmade a_mrest a_old v_thrown v_mask v_key v_wait v_problem v_code v_length v_cond v_masks v_addr v_mwanted 0 v_after v_calls u_89.2.1 u_89.2.2.1 v_mF v_mkF u_89.2.2.2.1 u_89.2.2.2.2 v_mmF v_resF v_oldF) := hD
              refine lv_aload_n hx hb dX12_decimals_124 rfl (lv_at hl 2 rfl) ?_
              refine lv_iload hx hb dX12_decimals_125 (lv_at hl 6 rfl) ?_
              refine lv_iload_n hx hb dX12_decimals_127 rfl (lv_at hl 4 rfl) ?_
              refine lv_iconst (v := 1) hx hb dX12_decimals_128 (by decide) ?_
              refine lv_iadd hx hb dX12_decimals_129 ?_
              refine lv_iconst (v := 1) hx hb dX12_decimals_130 (by decide) ?_
              have hPc : va_P D vwCl (wX12_takeDecimal cI cB a_mo a_mem a_mks a_mr a_cnt a_wd a_one a_two a_mmade a_mrest a_old v_thrown v_mask v_key v_wait v_problem v_code v_length v_cond v_masks v_addr v_mwanted 0 v_after v_calls u_89.2.1 u_89.2.2.1 v_mF u_89.2.2.2.1 u_89.2.2.2.2) H := hP.sub [0, 1, 3, 4] rfl
              have hDc : va_D A (wX12_takeDecimal cI cB a_mo a_mem a_mks a_mr a_cnt a_wd a_one a_two a_mmade a_mrest a_old v_thrown v_mask v_key v_wait v_problem v_code v_length v_cond v_masks v_addr v_mwanted 0 v_after v_calls u_89.2.1 u_89.2.2.1 v_mF u_89.2.2.2.1 u_89.2.2.2.2) := hD.sub [0, 1, 3, 4] (by decide) rfl
              have hFc := va_free (wc := (wX12_takeDecimal cI cB a_mo a_mem a_mks a_mr a_cnt a_wd a_one a_two a_mmade a_mrest a_old v_thrown v_mask v_key v_wait v_problem v_code v_length v_cond v_masks v_addr v_mwanted 0 v_after v_calls u_89.2.1 u_89.2.2.1 v_mF u_89.2.2.2.1 u_89.2.2.2.2)) hD hS hA [0, 1, 3, 4] rfl
              refine va_callv (va_runV (As := [.int x3, .int (x1 + 1), .int 1]) (rest := []) ⟨hx, hb, hml, hown, hts⟩ (kX12_takeDecimal l D cI cB a_mo a_mem a_mks a_mr a_cnt a_wd a_one a_two a_mmade a_mrest a_old H.size v_thrown v_mask v_key v_wait v_problem v_code v_length v_cond v_masks v_addr v_mwanted 0 v_after v_calls u_89.2.1 u_89.2.2.1 v_mF u_89.2.2.2.1 u_89.2.2.2.2 x3 (x1 + 1) 1 hn1 (fun _ => hAB.1)) (cwV 3 hts (gd_V wd_931 wd_932 wd_933 wd_807 wd_887) rfl rfl rfl hdX12_takeDecimal ⟨Nat.le_of_ble_eq_true rfl, Nat.le_of_ble_eq_true rfl⟩) (preV_std (ci := 12) (q0 := 0) hPc hK hDc hNW rfl rfl) rfl rfl hl.1 rfl (lv_room (Nat.le_of_ble_eq_true rfl)) dX12_decimals_131 ⟨Nat.zero_le _, Nat.zero_le _⟩) hS (fun q _ h => hFc q h) hFc (fun u_131 t9 H1 locs ht9 hvm9 hw9 hB9 hz9 hk9 hS => ?_)
              have eu_131 : u_131 = fX12_takeDecimal x3 (x1 + 1) 1 0 u_89.2.1 u_89.2.2.1 v_mF u_89.2.2.2.1 u_89.2.2.2.2 := hw9
              obtain ⟨hP, hD⟩ := back_std (w1 := (wX12_takeDecimal cI cB a_mo a_mem a_mks a_mr a_cnt a_wd a_one a_two a_mmade a_mrest a_old v_thrown v_mask v_key v_wait v_problem v_code v_length v_cond v_masks v_addr v_mwanted u_131.1 v_after v_calls u_131.2.1 u_131.2.2.1 v_mF u_131.2.2.2.1 u_131.2.2.2.2)) (w2 := (wX12_decimals cI cB a_mo a_mem a_mks a_mr a_cnt a_wd a_one a_two a_mmade a_mrest a_old v_thrown v_mask v_key v_wait v_problem v_code v_length v_cond v_masks v_addr v_mwanted u_131.1 v_after v_calls u_131.2.1 u_131.2.2.1 v_mF v_mkF u_131.2.2.2.1 u_131.2.2.2.2 v_mmF v_resF v_oldF)) (wr := [(a_mks, .inl (cI, 4, .inl v_mkF)), (a_mmade, .inl (cI, 80, .inl v_mmF)), (a_mrest, .inl (cI, 80, .inl v_resF)), (a_old, .inl (cI, 512, .inl v_oldF))]) hP hD [0, 1, 3, 4] [2, 5, 6, 7] [4, 5, 0, 6, 7, 1, 2, 3] rfl rfl (by decide) (by decide) hk9 hFc hB9 ht9 (by decide) rfl
              clear hB9 hk9 hz9 hvm9 ht9 hFc hPc hDc
              generalize H1 = H at hP hS ⊢
              refine lv_aload_n hx hb dX12_decimals_134 rfl (lv_at hl 2 rfl) ?_
              refine lv_iload hx hb dX12_decimals_135 (lv_at hl 1 rfl) ?_
              have J_149 : ∀ (m_149 : Int32), m_149 = (if m_111 = 0 then (u_131.1) else (u_89.1)) → ∀ (H : Heap) (locs : List Loc), va_P D vwCl (wX12_decimals cI cB a_mo a_mem a_mks a_mr a_cnt a_wd a_one a_two a_mmade a_mrest a_old v_thrown v_mask v_key v_wait v_problem v_code v_length v_cond v_masks v_addr v_mwanted u_131.1 v_after v_calls u_131.2.1 u_131.2.2.1 v_mF v_mkF u_131.2.2.2.1 u_131.2.2.2.2 v_mmF v_resF v_oldF) H → va_D A (wX12_decimals cI cB a_mo a_mem a_mks a_mr a_cnt a_wd a_one a_two a_mmade a_mrest a_old v_thrown v_mask v_key v_wait v_problem v_code v_length v_cond v_masks v_addr v_mwanted u_131.1 v_after v_calls u_131.2.1 u_131.2.2.1 v_mF v_mkF u_131.2.2.2.1 u_131.2.2.2.2 v_mmF v_resF v_oldF) → va_S A s.heap H locs → ∀ (ls : Array Slot), lv_has ls 9 [(0, .ref a_mo), (1, .int x0), (2, .int x1), (3, .int x2), (4, .int x3), (5, .int x4), (6, .int m_19), (7, .int m_111), (8, .int u_89.1)] → W p l e rmX12_decimals s m ([.ref a_mo, .int x0, .int x1, .int x2, .int x3, .int x4] : List Value).toArray below meth c H locs 0 0 (MQ below (qX12_decimals D cI cB a_mo a_mem a_mks a_mr a_cnt a_wd a_one a_two a_mmade a_mrest a_old v_thrown v_mask v_key v_wait v_problem v_code v_length v_cond v_masks v_addr v_mwanted v_wrong v_after v_calls v_oneB v_twoB v_mF v_mkF v_oneF v_twoF v_mmF v_resF v_oldF x0 x1 x2 x3 x4 A) ([.ref a_mo, .int x0, .int x1, .int x2, .int x3, .int x4] : List Value).toArray s 0 0 A) (F0 m 149 ls [.int m_149, .ref a_mo]) := by
                intro m_149 em_149 H locs hP hD hS ls hl
                try dsimp only at em_149
                refine va_put (D := D) (ci := 12) (v := .int m_149) (ty := .int) (C := RX12) (T := TX12) (N := 26) hx hb hts in_X12 tyX12 tyX12_ok nmX12 hown hK hP hD hS 0 rfl rfl 16 (by decide) q_0 (fun _ h9 => h9) rfl (by decide +kernel) rfl rfl (Nat.le_of_ble_eq_true rfl) dX12_decimals_149 (fun H locs hP hD hS => ?_)
                have hP : va_P D vwCl (wX12_decimals cI cB a_mo a_mem a_mks a_mr a_cnt a_wd a_one a_two a_mmade a_mrest a_old v_thrown v_mask v_key v_wait v_problem v_code v_length v_cond v_masks v_addr v_mwanted m_149 v_after v_calls u_131.2.1 u_131.2.2.1 v_mF v_mkF u_131.2.2.2.1 u_131.2.2.2.2 v_mmF v_resF v_oldF) H := hP
                have hD : va_D A (wX12_decimals cI cB a_mo a_mem a_mks a_mr a_cnt a_wd a_one a_two a_mmade a_mrest a_old v_thrown v_mask v_key v_wait v_problem v_code v_length v_cond v_masks v_addr v_mwanted m_149 v_after v_calls u_131.2.1 u_131.2.2.1 v_mF v_mkF u_131.2.2.2.1 u_131.2.2.2.2 v_mmF v_resF v_oldF) := hD
                exact J_152 (m_149, u_131.2.1, u_131.2.2.1, u_131.2.2.2.1, u_131.2.2.2.2) (by (try simp only [← em_111, ← eu_131, ← em_149]); (try simp only [if_neg c_96])) _ _ hP hD hS ls (lv_sub hl [0, 1, 2, 3, 4, 5, 6] rfl)
              refine lv_if_eq (tgt := 145) hx hb dX12_decimals_137 (by decide) (fun c_137 => ?_) (fun c_137 => ?_)
              · skip
                refine lv_aload_n hx hb dX12_decimals_145 rfl (lv_at hl 2 rfl) ?_
                refine va_get (D := D) (ci := 12) (v := .int u_131.1) (C := RX12) (T := TX12) (N := 26) hx hb hts in_X12 hown hK hP 0 rfl rfl 16 (by decide) q_0 (fun _ h9 => h9) rfl dX12_decimals_146 ?_
                exact J_149 u_131.1 (by (try simp only [if_pos c_137])) _ _ hP hD hS ls (lv_sub hl [2, 3, 4, 5, 6, 7, 8, 1, 0] rfl)
              · skip
                refine lv_iload hx hb dX12_decimals_140 (lv_at hl 0 rfl) ?_
                refine lv_goto (tgt := 149) hx hb dX12_decimals_142 (by decide) ?_
                exact J_149 u_89.1 (by (try simp only [if_neg c_137])) _ _ hP hD hS ls (lv_sub hl [2, 3, 4, 5, 6, 7, 8, 1, 0] rfl)
            refine lv_if_le (tgt := 110) hx hb dX12_decimals_103 (by decide) (fun c_103 => ?_) (fun c_103 => ?_)
            · skip
              refine lv_iconst (v := 0) hx hb dX12_decimals_110 (by decide) ?_
              exact J_111 0 (by (try simp only [if_pos c_103])) _ _ hP hD hS ls (lv_sub hl [0, 1, 2, 3, 4, 5, 6] rfl)
            · skip
              refine lv_iconst (v := 1) hx hb dX12_decimals_106 (by decide) ?_
              refine lv_goto (tgt := 111) hx hb dX12_decimals_107 (by decide) ?_
              exact J_111 1 (by (try simp only [if_neg c_103])) _ _ hP hD hS ls (lv_sub hl [0, 1, 2, 3, 4, 5, 6] rfl)
        · skip
          have hf9 : (v_cond, m_74, v_after, v_oneB, v_twoB, v_mF, v_oneF, v_twoF, v_mmF, v_resF, v_oldF) = fX12_decimals x0 x1 x2 x3 x4 v_key v_cond v_masks v_wrong v_after v_oneB v_twoB v_mF v_mkF v_oneF v_twoF v_mmF v_resF v_oldF := by simp only [fX12_decimals, ← em_19, ← em_39, ← eu_39, ← eu_49, ← em_74]; (try simp only [if_neg c_78])
          exact W.vret hx hb hr (fun t9 ht9 hW9 => ⟨⟨(v_cond, m_74, v_after, v_oneB, v_twoB, v_mF, v_oneF, v_twoF, v_mmF, v_resF, v_oldF), rfl, hf9, ⟨by rw [ht9]; exact hP, va_K.moved hW9.alike hK, hD⟩⟩, hS.F ht9⟩) hS.2.2 dX12_decimals_81
      refine lv_if_eq (tgt := 74) hx hb dX12_decimals_54 (by decide) (fun c_54 => ?_) (fun c_54 => ?_)
      · skip
        exact J_74 u_49 (by (try simp only [if_pos c_54])) _ _ hP hD hS ls (lv_sub hl [0, 1, 2, 3, 4, 5, 6] rfl)
      · skip
        refine lv_iload_n hx hb dX12_decimals_57 rfl (lv_at hl 3 rfl) ?_
        refine lv_bipush (v := 7) hx hb dX12_decimals_58 (by decide) ?_
        refine lv_icmp_gt (tgt := 68) hx hb dX12_decimals_60 (by decide) (fun c_60 => ?_) (fun c_60 => ?_)
        · skip
          refine lv_aload_n hx hb dX12_decimals_68 rfl (lv_at hl 0 rfl) ?_
          refine lv_bipush (v := 6) hx hb dX12_decimals_69 (by decide) ?_
          have hPc : va_P D vwCl (wX12_meet cI cB a_mo a_mem a_mks a_mr a_cnt a_wd a_one a_two a_mmade a_mrest a_old v_thrown v_mask v_key v_wait v_problem v_code v_length v_cond v_masks v_addr v_mwanted u_49 v_after v_calls v_oneB v_twoB) H := hP.sub [0] rfl
          have hDc : va_D A (wX12_meet cI cB a_mo a_mem a_mks a_mr a_cnt a_wd a_one a_two a_mmade a_mrest a_old v_thrown v_mask v_key v_wait v_problem v_code v_length v_cond v_masks v_addr v_mwanted u_49 v_after v_calls v_oneB v_twoB) := hD.sub [0] (by decide) rfl
          have hFc := va_free (wc := (wX12_meet cI cB a_mo a_mem a_mks a_mr a_cnt a_wd a_one a_two a_mmade a_mrest a_old v_thrown v_mask v_key v_wait v_problem v_code v_length v_cond v_masks v_addr v_mwanted u_49 v_after v_calls v_oneB v_twoB)) hD hS hA [0] rfl
          refine va_callv (va_runV (As := [.int 6]) (rest := []) ⟨hx, hb, hml, hown, hts⟩ (kX12_meet l D cI cB a_mo a_mem a_mks a_mr a_cnt a_wd a_one a_two a_mmade a_mrest a_old H.size v_thrown v_mask v_key v_wait v_problem v_code v_length v_cond v_masks v_addr v_mwanted u_49 v_after v_calls v_oneB v_twoB 6) (cwV 1 hts (gd_V wd_838 wd_839 wd_840 wd_807 wd_835) rfl rfl rfl hdX12_meet ⟨Nat.le_of_ble_eq_true rfl, Nat.le_of_ble_eq_true rfl⟩) (preV_std (ci := 12) (q0 := 0) hPc hK hDc hNW rfl rfl) rfl rfl hl.1 rfl (lv_room (Nat.le_of_ble_eq_true rfl)) dX12_decimals_71 ⟨Nat.zero_le _, Nat.zero_le _⟩) hS (fun q _ h => hFc q h) hFc (fun u_71 t9 H1 locs ht9 hvm9 hw9 hB9 hz9 hk9 hS => ?_)
          have eu_71 : u_71 = fX12_meet 6 u_49 := hw9
          obtain ⟨hP, hD⟩ := back_std (w1 := (wX12_meet cI cB a_mo a_mem a_mks a_mr a_cnt a_wd a_one a_two a_mmade a_mrest a_old v_thrown v_mask v_key v_wait v_problem v_code v_length v_cond v_masks v_addr v_mwanted u_71 v_after v_calls v_oneB v_twoB)) (w2 := (wX12_decimals cI cB a_mo a_mem a_mks a_mr a_cnt a_wd a_one a_two a_mmade a_mrest a_old v_thrown v_mask v_key v_wait v_problem v_code v_length v_cond v_masks v_addr v_mwanted u_71 v_after v_calls v_oneB v_twoB v_mF v_mkF v_oneF v_twoF v_mmF v_resF v_oldF)) (wr := [(a_mem, .inl (cI, 8192, .inl v_mF)), (a_mks, .inl (cI, 4, .inl v_mkF)), (a_one, .inl (cI, 80, .inl v_oneF)), (a_two, .inl (cI, 80, .inl v_twoF)), (a_mmade, .inl (cI, 80, .inl v_mmF)), (a_mrest, .inl (cI, 80, .inl v_resF)), (a_old, .inl (cI, 512, .inl v_oldF))]) hP hD [0] [1, 2, 3, 4, 5, 6, 7] [7, 0, 1, 2, 3, 4, 5, 6] rfl rfl (by decide) (by decide) hk9 hFc hB9 ht9 (by decide) rfl
          clear hB9 hk9 hz9 hvm9 ht9 hFc hPc hDc
          generalize H1 = H at hP hS ⊢
          exact J_74 u_71 (by (try simp only [← eu_71]); (try simp only [if_neg c_54, if_pos c_60])) _ _ hP hD hS ls (lv_sub hl [0, 1, 2, 3, 4, 5, 6] rfl)
        · skip
          refine lv_iload_n hx hb dX12_decimals_63 rfl (lv_at hl 3 rfl) ?_
          refine lv_iload_n hx hb dX12_decimals_64 rfl (lv_at hl 2 rfl) ?_
          refine lv_icmp_lt (tgt := 74) hx hb dX12_decimals_65 (by decide) (fun c_65 => ?_) (fun c_65 => ?_)
          · skip
            exact J_74 u_49 (by (try simp only [if_neg c_54, if_neg c_60, if_pos c_65])) _ _ hP hD hS ls (lv_sub hl [0, 1, 2, 3, 4, 5, 6] rfl)
          · skip
            refine lv_aload_n hx hb dX12_decimals_68 rfl (lv_at hl 0 rfl) ?_
            refine lv_bipush (v := 6) hx hb dX12_decimals_69 (by decide) ?_
            have hPc : va_P D vwCl (wX12_meet cI cB a_mo a_mem a_mks a_mr a_cnt a_wd a_one a_two a_mmade a_mrest a_old v_thrown v_mask v_key v_wait v_problem v_code v_length v_cond v_masks v_addr v_mwanted u_49 v_after v_calls v_oneB v_twoB) H := hP.sub [0] rfl
            have hDc : va_D A (wX12_meet cI cB a_mo a_mem a_mks a_mr a_cnt a_wd a_one a_two a_mmade a_mrest a_old v_thrown v_mask v_key v_wait v_problem v_code v_length v_cond v_masks v_addr v_mwanted u_49 v_after v_calls v_oneB v_twoB) := hD.sub [0] (by decide) rfl
            have hFc := va_free (wc := (wX12_meet cI cB a_mo a_mem a_mks a_mr a_cnt a_wd a_one a_two a_mmade a_mrest a_old v_thrown v_mask v_key v_wait v_problem v_code v_length v_cond v_masks v_addr v_mwanted u_49 v_after v_calls v_oneB v_twoB)) hD hS hA [0] rfl
            refine va_callv (va_runV (As := [.int 6]) (rest := []) ⟨hx, hb, hml, hown, hts⟩ (kX12_meet l D cI cB a_mo a_mem a_mks a_mr a_cnt a_wd a_one a_two a_mmade a_mrest a_old H.size v_thrown v_mask v_key v_wait v_problem v_code v_length v_cond v_masks v_addr v_mwanted u_49 v_after v_calls v_oneB v_twoB 6) (cwV 1 hts (gd_V wd_838 wd_839 wd_840 wd_807 wd_835) rfl rfl rfl hdX12_meet ⟨Nat.le_of_ble_eq_true rfl, Nat.le_of_ble_eq_true rfl⟩) (preV_std (ci := 12) (q0 := 0) hPc hK hDc hNW rfl rfl) rfl rfl hl.1 rfl (lv_room (Nat.le_of_ble_eq_true rfl)) dX12_decimals_71 ⟨Nat.zero_le _, Nat.zero_le _⟩) hS (fun q _ h => hFc q h) hFc (fun u_71 t9 H1 locs ht9 hvm9 hw9 hB9 hz9 hk9 hS => ?_)
            have eu_71 : u_71 = fX12_meet 6 u_49 := hw9
            obtain ⟨hP, hD⟩ := back_std (w1 := (wX12_meet cI cB a_mo a_mem a_mks a_mr a_cnt a_wd a_one a_two a_mmade a_mrest a_old v_thrown v_mask v_key v_wait v_problem v_code v_length v_cond v_masks v_addr v_mwanted u_71 v_after v_calls v_oneB v_twoB)) (w2 := (wX12_decimals cI cB a_mo a_mem a_mks a_mr a_cnt a_wd a_one a_two a_mmade a_mrest a_old v_thrown v_mask v_key v_wait v_problem v_code v_length v_cond v_masks v_addr v_mwanted u_71 v_after v_calls v_oneB v_twoB v_mF v_mkF v_oneF v_twoF v_mmF v_resF v_oldF)) (wr := [(a_mem, .inl (cI, 8192, .inl v_mF)), (a_mks, .inl (cI, 4, .inl v_mkF)), (a_one, .inl (cI, 80, .inl v_oneF)), (a_two, .inl (cI, 80, .inl v_twoF)), (a_mmade, .inl (cI, 80, .inl v_mmF)), (a_mrest, .inl (cI, 80, .inl v_resF)), (a_old, .inl (cI, 512, .inl v_oldF))]) hP hD [0] [1, 2, 3, 4, 5, 6, 7] [7, 0, 1, 2, 3, 4, 5, 6] rfl rfl (by decide) (by decide) hk9 hFc hB9 ht9 (by decide) rfl
            clear hB9 hk9 hz9 hvm9 ht9 hFc hPc hDc
            generalize H1 = H at hP hS ⊢
            exact J_74 u_71 (by (try simp only [← eu_71]); (try simp only [if_neg c_54, if_neg c_60, if_neg c_65])) _ _ hP hD hS ls (lv_sub hl [0, 1, 2, 3, 4, 5, 6] rfl)
    refine lv_icmp_eq (tgt := 38) hx hb dX12_decimals_31 (by decide) (fun c_31 => ?_) (fun c_31 => ?_)
    · skip
      refine lv_iconst (v := 0) hx hb dX12_decimals_38 (by decide) ?_
      exact J_39 0 (by (try simp only [if_pos c_31])) _ _ hP hD hS ls (lv_sub hl [1, 2, 3, 4, 5, 6, 0] rfl)
    · skip
      refine lv_iconst (v := 1) hx hb dX12_decimals_34 (by decide) ?_
      refine lv_goto (tgt := 39) hx hb dX12_decimals_35 (by decide) ?_
      exact J_39 1 (by (try simp only [if_neg c_31])) _ _ hP hD hS ls (lv_sub hl [1, 2, 3, 4, 5, 6, 0] rfl)
  refine lv_icmp_eq (tgt := 14) hx hb dX12_decimals_4 (by decide) (fun c_4 => ?_) (fun c_4 => ?_)
  · skip
    refine lv_iconst (v := 1) hx hb dX12_decimals_14 (by decide) ?_
    refine lv_goto (tgt := 19) hx hb dX12_decimals_15 (by decide) ?_
    exact J_19 1 (by (try simp only [if_pos c_4])) _ _ hP hD hS ls (lv_sub hl [0, 1, 2, 3, 4, 5] rfl)
  · skip
    refine lv_iload_n hx hb dX12_decimals_7 rfl (lv_at hl 1 rfl) ?_
    refine lv_sipush (v := 253) hx hb dX12_decimals_8 (by decide) ?_
    refine lv_icmp_ne (tgt := 18) hx hb dX12_decimals_11 (by decide) (fun c_11 => ?_) (fun c_11 => ?_)
    · skip
      refine lv_iconst (v := 0) hx hb dX12_decimals_18 (by decide) ?_
      exact J_19 0 (by (try simp only [if_neg c_4, if_neg c_11])) _ _ hP hD hS ls (lv_sub hl [0, 1, 2, 3, 4, 5] rfl)
    · skip
      refine lv_iconst (v := 1) hx hb dX12_decimals_14 (by decide) ?_
      refine lv_goto (tgt := 19) hx hb dX12_decimals_15 (by decide) ?_
      exact J_19 1 (by (try simp only [if_neg c_4, if_pos c_11])) _ _ hP hD hS ls (lv_sub hl [0, 1, 2, 3, 4, 5] rfl)
theorem hdX12_decimals : yX12_decimals.cls = RX12 ∧ yX12_decimals.cls ≠ "java/lang/invoke/MethodHandle" ∧ yX12_decimals.cls ≠ "java/lang/invoke/VarHandle" ∧ (parseMethodDescriptor yX12_decimals.desc).map (fun d => d.parameters.length) = some 5 := by decide +kernel
