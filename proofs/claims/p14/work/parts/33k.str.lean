noncomputable def LX12_translate_18 (x1 : Int32) (x2 : Int32) (x3 : Int32) (v_key : Int32) (v_mF : (Nat → Int32)) (v_mkF : (Nat → Int32)) : Nat → (Int32 × Int32) → (Int32 × Int32)
  | 0, w_18 => w_18
  | n9 + 1, w_18 =>
    if x1 ≤ w_18.2 then ((w_18.1, w_18.2)) else (let m_55 : Int32 := (if 8192 ≤ (x2 + w_18.2) then (w_18.1) else (let u_52 := fX12_look ((x3 + (v_mF ((x2 + w_18.2) : Int32).toNatClampNeg)) &&& 16777215) 1 0 v_key w_18.1 v_mkF; u_52)); let x_55 := w_18.2 + 1; LX12_translate_18 x1 x2 x3 v_key v_mF v_mkF n9 (m_55, x_55))
noncomputable def LX12_translate_81 (x0 : Int32) (x1 : Int32) (x2 : Int32) (x3 : Int32) : Nat → (Int32 × (Nat → Int32)) → ((Int32 × (Nat → Int32)) × Nat)
  | 0, w_81 => (w_81, 0)
  | n9 + 1, w_81 =>
    if x1 ≤ w_81.1 then (((w_81.1, w_81.2), 1)) else (let x_107 := (w_81.2 (((x3 + (w_81.2 ((x2 + w_81.1) : Int32).toNatClampNeg)) &&& 16777215) : Int32).toNatClampNeg); if x0 = 0 then (let f_123 := upd w_81.2 ((x2 + w_81.1) : Int32).toNatClampNeg (x_107); let x_189 := w_81.1 + 1; LX12_translate_81 x0 x1 x2 x3 n9 (x_189, f_123)) else (if x_107 = 0 then (let x_189 := w_81.1 + 1; LX12_translate_81 x0 x1 x2 x3 n9 (x_189, w_81.2)) else (((w_81.1, w_81.2), 0))))
noncomputable def fX12_translate (x0 : Int32) (x1 : Int32) (x2 : Int32) (x3 : Int32) (v_key : Int32) (v_cond : Int32) (v_wrong : Int32) (v_mF : (Nat → Int32)) (v_mkF : (Nat → Int32)) (v_mrF : (Nat → Int32)) : (Int32 × Int32 × (Nat → Int32) × (Nat → Int32)) :=
  let m_12 : Int32 := (if x0 = 0 then (1) else (0))
  let u_12 := fX12_look x2 x1 m_12 v_key v_wrong v_mkF
  let g_18 := LX12_translate_18 x1 x2 x3 v_key v_mF v_mkF (msU x1 0 + 1) (u_12, 0)
  if g_18.1 ≤ 0 then (let m_78 : Int32 := (if x0 = 0 then (v_cond) else (0)); let g_81 := LX12_translate_81 x0 x1 x2 x3 (msU x1 0 + 1) (0, v_mF); if g_81.2 = 0 then (let f_151 := upd v_mrF (1 : Int32).toNatClampNeg ((((v_mrF (1 : Int32).toNatClampNeg) &&& (-16777216 : Int32)) ||| (x2 + g_81.1.1))); let f_170 := upd f_151 (2 : Int32).toNatClampNeg ((((f_151 (2 : Int32).toNatClampNeg) &&& (-256 : Int32)) ||| (g_81.1.2 (((x3 + (g_81.1.2 ((x2 + g_81.1.1) : Int32).toNatClampNeg)) &&& 16777215) : Int32).toNatClampNeg))); let m_185 : Int32 := (if g_81.1.1 = (x1 - 1) then (2) else (1)); (m_185, g_18.1, g_81.1.2, f_170)) else ((m_78, g_18.1, g_81.1.2, v_mrF))) else ((v_cond, g_18.1, v_mF, v_mrF))
def trT (n a b : Int32) (mF : Nat → Int32) (k : Int32) : Prop := ∀ j : Int32, k.toInt ≤ j.toInt → j.toInt < n.toInt → 8192 ≤ (a + j) ∨ vp_in ((b + mF (a + j).toNatClampNeg) &&& 16777215) 8192
theorem tr_loop {n a b ky : Int32} {mF mk : Nat → Int32} (hn : n.toInt ≤ 256) : ∀ (n9 : Nat) (w : Int32 × Int32), msU n w.2 < n9 → 0 ≤ w.1 → 0 ≤ w.2 → (LX12_translate_18 n a b ky mF mk n9 w).1 ≤ 0 → w.1 = 0 ∧ trT n a b mF w.2
  | 0, _, h, _, _, _ => absurd h (Nat.not_lt_zero _)
  | n9 + 1, w, hm, h0, hk, h => by
    simp only [LX12_translate_18] at h
    by_cases c : n ≤ w.2
    · rw [if_pos c] at h
      refine ⟨zero_i h0 (nle_pos h), fun j h1 h2 => ?_⟩
      have h3 := Int32.le_iff_toInt_le.mp c
      omega
    rw [if_neg c] at h
    have hm2 : msU n (w.2 + 1) < n9 := Nat.lt_of_lt_of_le (ms_up c) (Nat.le_of_lt_succ hm)
    have hk2 := nn_up hk c
    have hlt := lt_i c
    have hk0 := le0 hk
    have hadd : (w.2 + 1).toInt = w.2.toInt + 1 := add1_i (by omega) (by omega)
    by_cases c2 : 8192 ≤ a + w.2
    · rw [if_pos c2] at h
      obtain ⟨e1, h1⟩ := tr_loop hn n9 (w.1, w.2 + 1) hm2 h0 hk2 h
      refine ⟨e1, fun j hj1 hj2 => ?_⟩
      by_cases hj3 : j.toInt = w.2.toInt
      · rw [Int32.toInt_inj.mp hj3]; exact Or.inl c2
      · exact h1 j (by dsimp only; omega) hj2
    · rw [if_neg c2] at h
      obtain ⟨e1, h1⟩ := tr_loop hn n9 (fX12_look ((b + mF (a + w.2).toNatClampNeg) &&& 16777215) 1 0 ky w.1 mk, w.2 + 1) hm2 (look_nn' h0) hk2 h
      have e1' : fX12_look ((b + mF (a + w.2).toNatClampNeg) &&& 16777215) 1 0 ky w.1 mk = 0 := e1
      obtain ⟨e2, h2⟩ := lk_inM (n := 1) (in24_and _) ⟨by decide, by decide⟩ h0 e1'.symm (show (0 : Int32) ≤ 0 by decide)
      refine ⟨e2, fun j hj1 hj2 => ?_⟩
      by_cases hj3 : j.toInt = w.2.toInt
      · rw [Int32.toInt_inj.mp hj3]; exact Or.inr (first_in (n := 1) (by decide) h2)
      · exact h1 j (by dsimp only; omega) hj2
theorem tr_all {n a b z ky w u : Int32} {mF mk : Nat → Int32} {g : Int32 × Int32} (ha : in24 a) (hn : 1 ≤ n.toInt ∧ n.toInt ≤ 256) (hw : 0 ≤ w) (e1 : u = fX12_look a n z ky w mk) (e2 : g = LX12_translate_18 n a b ky mF mk (msU n 0 + 1) (u, 0)) (h : g.1 ≤ 0) : inM a n ∧ trT n a b mF 0 := by
  have h1 : 0 ≤ u := by rw [e1]; exact look_nn' hw
  rw [e2] at h
  obtain ⟨h2, h3⟩ := tr_loop hn.2 _ (u, 0) (Nat.lt_succ_self _) h1 (show (0 : Int32) ≤ 0 by decide) h
  exact ⟨(lk_inM ha hn hw e1 (by have h2' : u = 0 := h2; rw [h2']; decide)).2, h3⟩
/-- the bytes behind k are as they were -/
def trI (n a : Int32) (f0 f : Nat → Int32) (k : Int32) : Prop := ∀ j : Int32, k.toInt ≤ j.toInt → j.toInt < n.toInt → f (a + j).toNatClampNeg = f0 (a + j).toNatClampNeg
theorem trI_0 {n a k : Int32} {f : Nat → Int32} : trI n a f f k := fun _ _ _ => rfl
theorem trI_k {n a k : Int32} {f0 f : Nat → Int32} (h0 : 0 ≤ k) (c : ¬ n ≤ k) (h : trI n a f0 f k) : trI n a f0 f (k + 1) := fun j h1 h2 => by
  have h3 := le0 h0
  have h4 := lt_i c
  have h5 : n.toInt < 2 ^ 31 := Int32.toInt_lt n
  have k1 : (1 : Int32).toInt = 1 := by decide
  rw [add_toInt (by omega) (by omega)] at h1
  exact h j (by omega) h2
theorem clamp_inj {a b : Int32} (ha : 0 ≤ a.toInt) (hb : 0 ≤ b.toInt) (h : a.toNatClampNeg = b.toNatClampNeg) : a.toInt = b.toInt := by
  rw [← Int32.toNat_toInt, ← Int32.toNat_toInt] at h
  omega
theorem trI_s {n a k v : Int32} {f0 f : Nat → Int32} (hA : inM a n) (hn : n.toInt ≤ 256) (h0 : 0 ≤ k) (c : ¬ n ≤ k) (h : trI n a f0 f k) : trI n a f0 (upd f (a + k).toNatClampNeg v) (k + 1) := fun j h1 h2 => by
  have h3 := le0 h0
  have h4 := lt_i c
  obtain ⟨h5, h6⟩ := hA
  rw [add1_i (by omega) (by omega)] at h1
  have ea : (a + k).toInt = a.toInt + k.toInt := add_toInt (by omega) (by omega)
  have ej : (a + j).toInt = a.toInt + j.toInt := add_toInt (by omega) (by omega)
  rw [pk_un (fun e => ?_)]
  · exact h j (by omega) h2
  · have := clamp_inj (by omega) (by omega) e
    omega
theorem tr_in {n a b k : Int32} {f0 f : Nat → Int32} (hA : inM a n) (hT : trT n a b f0 0) (h0 : 0 ≤ k) (c : ¬ n ≤ k) (h : trI n a f0 f k) : vp_in ((b + f (a + k).toNatClampNeg) &&& 16777215) 8192 := by
  have h3 := le0 h0
  have h4 := lt_i c
  obtain ⟨h5, h6⟩ := hA
  rw [h k (by omega) h4]
  have k0 : (0 : Int32).toInt = 0 := by decide
  rcases hT k (by omega) h4 with g | g
  · have g1 := Int32.le_iff_toInt_le.mp g
    rw [add_toInt (by omega) (by omega)] at g1
    have k8 : (8192 : Int32).toInt = 8192 := by decide
    omega
  · exact g

abbrev wX12_translate (cI cB : ClassId) (a_mo a_mem a_mks a_mr a_cnt a_wd a_one a_two a_mmade a_mrest a_old : Nat) (v_thrown : Int32) (v_mask : Int32) (v_key : Int32) (v_wait : Int32) (v_problem : Int32) (v_code : Int32) (v_length : Int32) (v_cond : Int32) (v_masks : Int32) (v_addr : Int32) (v_mwanted : Int32) (v_wrong : Int32) (v_after : Int32) (v_calls : Int32) (v_oneB : Int32) (v_twoB : Int32) (v_mF : (Nat → Int32)) (v_mkF : (Nat → Int32)) (v_mrF : (Nat → Int32)) : va_W := [(a_mo, .inr (12, [.int v_thrown, .ref a_mem, .ref a_mks, .ref a_mr, .int v_mask, .int v_key, .int v_wait, .int v_problem, .int v_code, .int v_length, .int v_cond, .int v_masks, .int v_addr, .int v_mwanted, .ref a_cnt, .ref a_wd, .int v_wrong, .int v_after, .int v_calls, .ref a_one, .int v_oneB, .ref a_two, .int v_twoB, .ref a_mmade, .ref a_mrest, .ref a_old])), (a_mem, .inl (cI, 8192, .inl v_mF)), (a_mks, .inl (cI, 4, .inl v_mkF)), (a_mr, .inl (cI, 16, .inl v_mrF))]
abbrev rmX12_translate : Room := { frames := 2, cells := 0, slots := 0, locals := 48 }
abbrev qX12_translate (D : va_G) (cI cB : ClassId) (a_mo a_mem a_mks a_mr a_cnt a_wd a_one a_two a_mmade a_mrest a_old : Nat) (v_thrown : Int32) (v_mask : Int32) (v_key : Int32) (v_wait : Int32) (v_problem : Int32) (v_code : Int32) (v_length : Int32) (v_cond : Int32) (v_masks : Int32) (v_addr : Int32) (v_mwanted : Int32) (v_wrong : Int32) (v_after : Int32) (v_calls : Int32) (v_oneB : Int32) (v_twoB : Int32) (v_mF : (Nat → Int32)) (v_mkF : (Nat → Int32)) (v_mrF : (Nat → Int32)) (x0 : Int32) (x1 : Int32) (x2 : Int32) (x3 : Int32) : (Nat → Prop) → Array Value → State → Outcome → State → Prop := fun A9 => va_Qv (fun (u9 : (Int32 × Int32 × (Nat → Int32) × (Nat → Int32))) => u9 = fX12_translate x0 x1 x2 x3 v_key v_cond v_wrong v_mF v_mkF v_mrF) (fun u9 t9 => atW D (TYS cI cB) A9 (wX12_translate cI cB a_mo a_mem a_mks a_mr a_cnt a_wd a_one a_two a_mmade a_mrest a_old v_thrown v_mask v_key v_wait v_problem v_code v_length u9.1 v_masks v_addr v_mwanted u9.2.1 v_after v_calls v_oneB v_twoB u9.2.2.1 v_mkF u9.2.2.2) t9) A9
set_option maxHeartbeats 4000000 in
set_option maxRecDepth 100000 in
theorem kX12_translate (l : Launch) (D : va_G) (cI cB : ClassId) (a_mo a_mem a_mks a_mr a_cnt a_wd a_one a_two a_mmade a_mrest a_old : Nat) (sz : Nat) (v_thrown : Int32) (v_mask : Int32) (v_key : Int32) (v_wait : Int32) (v_problem : Int32) (v_code : Int32) (v_length : Int32) (v_cond : Int32) (v_masks : Int32) (v_addr : Int32) (v_mwanted : Int32) (v_wrong : Int32) (v_after : Int32) (v_calls : Int32) (v_oneB : Int32) (v_twoB : Int32) (v_mF : (Nat → Int32)) (v_mkF : (Nat → Int32)) (v_mrF : (Nat → Int32)) (x0 : Int32) (x1 : Int32) (x2 : Int32) (x3 : Int32) (hn : 1 ≤ x1.toInt ∧ x1.toInt ≤ 256) (ha : in24 x2) (hw : 0 ≤ v_wrong) : MetW l yX12_translate (WK yX12_translate cX12_translate 7 none) rmX12_translate D (TYS cI cB) (wX12_translate cI cB a_mo a_mem a_mks a_mr a_cnt a_wd a_one a_two a_mmade a_mrest a_old v_thrown v_mask v_key v_wait v_problem v_code v_length v_cond v_masks v_addr v_mwanted v_wrong v_after v_calls v_oneB v_twoB v_mF v_mkF v_mrF) sz [.ref a_mo, .int x0, .int x1, .int x2, .int x3] (qX12_translate D cI cB a_mo a_mem a_mks a_mr a_cnt a_wd a_one a_two a_mmade a_mrest a_old v_thrown v_mask v_key v_wait v_problem v_code v_length v_cond v_masks v_addr v_mwanted v_wrong v_after v_calls v_oneB v_twoB v_mF v_mkF v_mrF x0 x1 x2 x3) 0 0 := by
  refine met_std (by decide) rfl (Nat.le_of_ble_eq_true rfl) ?_
  intro p e s m below meth c A ls H hx hb hr hml hown hts hlocks hA hP hK hD hS hNW hl
  have hl : lv_has ls 7 [(0, .ref a_mo), (1, .int x0), (2, .int x1), (3, .int x2), (4, .int x3)] := hl
  have q_0 := hts _ (List.mem_cons_of_mem _ wd_777)
  have q_1 := hts _ (List.mem_cons_of_mem _ wd_810)
  have q_2 := hts _ (List.mem_cons_of_mem _ wd_836)
  have q_3 := hts _ (List.mem_cons_of_mem _ wd_792)
  have q_4 := hts _ (List.mem_cons_of_mem _ wd_779)
  have q_5 := hts _ (List.mem_cons_of_mem _ wd_977)
  refine lv_aload_n hx hb dX12_translate_0 rfl (lv_at hl 0 rfl) ?_
  refine lv_iload_n hx hb dX12_translate_1 rfl (lv_at hl 3 rfl) ?_
  refine lv_iload_n hx hb dX12_translate_2 rfl (lv_at hl 2 rfl) ?_
  refine lv_iload_n hx hb dX12_translate_3 rfl (lv_at hl 1 rfl) ?_
  have J_12 : ∀ (m_12 : Int32), m_12 = (if x0 = 0 then (1) else (0)) → ∀ (H : Heap) (locs : List Loc), va_P D vwCl (wX12_translate cI cB a_mo a_mem a_mks a_mr a_cnt a_wd a_one a_two a_mmade a_mrest a_old v_thrown v_mask v_key v_wait v_problem v_code v_length v_cond v_masks v_addr v_mwanted v_wrong v_after v_calls v_oneB v_twoB v_mF v_mkF v_mrF) H → va_D A (wX12_translate cI cB a_mo a_mem a_mks a_mr a_cnt a_wd a_one a_two a_mmade a_mrest a_old v_thrown v_mask v_key v_wait v_problem v_code v_length v_cond v_masks v_addr v_mwanted v_wrong v_after v_calls v_oneB v_twoB v_mF v_mkF v_mrF) → va_S A s.heap H locs → ∀ (ls : Array Slot), lv_has ls 7 [(0, .ref a_mo), (1, .int x0), (2, .int x1), (3, .int x2), (4, .int x3)] → W p l e rmX12_translate s m ([.ref a_mo, .int x0, .int x1, .int x2, .int x3] : List Value).toArray below meth c H locs 0 0 (MQ below (qX12_translate D cI cB a_mo a_mem a_mks a_mr a_cnt a_wd a_one a_two a_mmade a_mrest a_old v_thrown v_mask v_key v_wait v_problem v_code v_length v_cond v_masks v_addr v_mwanted v_wrong v_after v_calls v_oneB v_twoB v_mF v_mkF v_mrF x0 x1 x2 x3 A) ([.ref a_mo, .int x0, .int x1, .int x2, .int x3] : List Value).toArray s 0 0 A) (F0 m 12 ls [.int m_12, .int x1, .int x2, .ref a_mo]) := by
    intro m_12 em_12 H locs hP hD hS ls hl
    try dsimp only at em_12
    have zm_12_0 : m_12 = 0 ∨ m_12 = 1 := by rw [em_12]; (try dsimp only); (repeat' split) <;> first | exact Or.inl rfl | exact Or.inr rfl
    have hPc : va_P D vwCl (wX12_look cI cB a_mo a_mem a_mks a_mr a_cnt a_wd a_one a_two a_mmade a_mrest a_old v_thrown v_mask v_key v_wait v_problem v_code v_length v_cond v_masks v_addr v_mwanted v_wrong v_after v_calls v_oneB v_twoB v_mkF) H := hP.sub [0, 2] rfl
    have hDc : va_D A (wX12_look cI cB a_mo a_mem a_mks a_mr a_cnt a_wd a_one a_two a_mmade a_mrest a_old v_thrown v_mask v_key v_wait v_problem v_code v_length v_cond v_masks v_addr v_mwanted v_wrong v_after v_calls v_oneB v_twoB v_mkF) := hD.sub [0, 2] (by decide) rfl
    have hFc := va_free (wc := (wX12_look cI cB a_mo a_mem a_mks a_mr a_cnt a_wd a_one a_two a_mmade a_mrest a_old v_thrown v_mask v_key v_wait v_problem v_code v_length v_cond v_masks v_addr v_mwanted v_wrong v_after v_calls v_oneB v_twoB v_mkF)) hD hS hA [0, 2] rfl
    refine va_callv (va_runV (As := [.int x2, .int x1, .int m_12]) (rest := []) ⟨hx, hb, hml, hown, hts⟩ (kX12_look l D cI cB a_mo a_mem a_mks a_mr a_cnt a_wd a_one a_two a_mmade a_mrest a_old H.size v_thrown v_mask v_key v_wait v_problem v_code v_length v_cond v_masks v_addr v_mwanted v_wrong v_after v_calls v_oneB v_twoB v_mkF x2 x1 m_12) (cwV 3 hts (gd_V wd_857 wd_858 wd_859 wd_807 wd_837) rfl rfl rfl hdX12_look ⟨Nat.le_of_ble_eq_true rfl, Nat.le_of_ble_eq_true rfl⟩) (preV_std (ci := 12) (q0 := 0) hPc hK hDc hNW rfl rfl) rfl rfl hl.1 rfl (lv_room (Nat.le_of_ble_eq_true rfl)) dX12_translate_12 ⟨Nat.zero_le _, Nat.zero_le _⟩) hS (fun q _ h => hFc q h) hFc (fun u_12 t9 H1 locs ht9 hvm9 hw9 hB9 hz9 hk9 hS => ?_)
    have eu_12 : u_12 = fX12_look x2 x1 m_12 v_key v_wrong v_mkF := hw9
    obtain ⟨hP, hD⟩ := back_std (w1 := (wX12_look cI cB a_mo a_mem a_mks a_mr a_cnt a_wd a_one a_two a_mmade a_mrest a_old v_thrown v_mask v_key v_wait v_problem v_code v_length v_cond v_masks v_addr v_mwanted u_12 v_after v_calls v_oneB v_twoB v_mkF)) (w2 := (wX12_translate cI cB a_mo a_mem a_mks a_mr a_cnt a_wd a_one a_two a_mmade a_mrest a_old v_thrown v_mask v_key v_wait v_problem v_code v_length v_cond v_masks v_addr v_mwanted u_12 v_after v_calls v_oneB v_twoB v_mF v_mkF v_mrF)) (wr := [(a_mem, .inl (cI, 8192, .inl v_mF)), (a_mr, .inl (cI, 16, .inl v_mrF))]) hP hD [0, 2] [1, 3] [2, 0, 3, 1] rfl rfl (by decide) (by decide) hk9 hFc hB9 ht9 (by decide) rfl
    clear hB9 hk9 hz9 hvm9 ht9 hFc hPc hDc
    generalize H1 = H at hP hS ⊢
    refine lv_iconst (v := 0) hx hb dX12_translate_15 (by decide) ?_
    refine lv_istore (lv' := [(5, .int 0), (0, .ref a_mo), (1, .int x0), (2, .int x1), (3, .int x2), (4, .int x3)]) hx hb dX12_translate_16 hl (by decide) rfl (fun ls hl => ?_)
    obtain ⟨g_18, eg_18⟩ : ∃ z : (Int32 × Int32), z = LX12_translate_18 x1 x2 x3 v_key v_mF v_mkF (msU x1 0 + 1) (u_12, 0) := ⟨_, rfl⟩
    have K_18_0 : ∀ (H : Heap) (locs : List Loc), va_P D vwCl (wX12_translate cI cB a_mo a_mem a_mks a_mr a_cnt a_wd a_one a_two a_mmade a_mrest a_old v_thrown v_mask v_key v_wait v_problem v_code v_length v_cond v_masks v_addr v_mwanted g_18.1 v_after v_calls v_oneB v_twoB v_mF v_mkF v_mrF) H → va_D A (wX12_translate cI cB a_mo a_mem a_mks a_mr a_cnt a_wd a_one a_two a_mmade a_mrest a_old v_thrown v_mask v_key v_wait v_problem v_code v_length v_cond v_masks v_addr v_mwanted g_18.1 v_after v_calls v_oneB v_twoB v_mF v_mkF v_mrF) → va_S A s.heap H locs → ∀ (ls : Array Slot), lv_has ls 7 [(0, .ref a_mo), (1, .int x0), (2, .int x1), (3, .int x2), (4, .int x3), (5, .int g_18.2)] → W p l e rmX12_translate s m ([.ref a_mo, .int x0, .int x1, .int x2, .int x3] : List Value).toArray below meth c H locs 0 0 (MQ below (qX12_translate D cI cB a_mo a_mem a_mks a_mr a_cnt a_wd a_one a_two a_mmade a_mrest a_old v_thrown v_mask v_key v_wait v_problem v_code v_length v_cond v_masks v_addr v_mwanted v_wrong v_after v_calls v_oneB v_twoB v_mF v_mkF v_mrF x0 x1 x2 x3 A) ([.ref a_mo, .int x0, .int x1, .int x2, .int x3] : List Value).toArray s 0 0 A) (F0 m 61 ls []) := by
      intro H locs hP hD hS ls hl
      refine lv_aload_n hx hb dX12_translate_61 rfl (lv_at hl 0 rfl) ?_
      refine va_get (D := D) (ci := 12) (v := .int g_18.1) (C := RX12) (T := TX12) (N := 26) hx hb hts in_X12 hown hK hP 0 rfl rfl 16 (by decide) q_2 (fun _ h9 => h9) rfl dX12_translate_62 ?_
      refine lv_if_le (tgt := 69) hx hb dX12_translate_65 (by decide) (fun c_65 => ?_) (fun c_65 => ?_)
      · skip
        have hT := tr_all ha hn hw eu_12 eg_18 c_65
        refine lv_iload_n hx hb dX12_translate_69 rfl (lv_at hl 1 rfl) ?_
        have J_78 : ∀ (m_78 : Int32), m_78 = (if x0 = 0 then (v_cond) else (0)) → ∀ (H : Heap) (locs : List Loc), va_P D vwCl (wX12_translate cI cB a_mo a_mem a_mks a_mr a_cnt a_wd a_one a_two a_mmade a_mrest a_old v_thrown v_mask v_key v_wait v_problem v_code v_length m_78 v_masks v_addr v_mwanted g_18.1 v_after v_calls v_oneB v_twoB v_mF v_mkF v_mrF) H → va_D A (wX12_translate cI cB a_mo a_mem a_mks a_mr a_cnt a_wd a_one a_two a_mmade a_mrest a_old v_thrown v_mask v_key v_wait v_problem v_code v_length m_78 v_masks v_addr v_mwanted g_18.1 v_after v_calls v_oneB v_twoB v_mF v_mkF v_mrF) → va_S A s.heap H locs → ∀ (ls : Array Slot), lv_has ls 7 [(0, .ref a_mo), (1, .int x0), (2, .int x1), (3, .int x2), (4, .int x3), (5, .int g_18.2)] → W p l e rmX12_translate s m ([.ref a_mo, .int x0, .int x1, .int x2, .int x3] : List Value).toArray below meth c H locs 0 0 (MQ below (qX12_translate D cI cB a_mo a_mem a_mks a_mr a_cnt a_wd a_one a_two a_mmade a_mrest a_old v_thrown v_mask v_key v_wait v_problem v_code v_length v_cond v_masks v_addr v_mwanted v_wrong v_after v_calls v_oneB v_twoB v_mF v_mkF v_mrF x0 x1 x2 x3 A) ([.ref a_mo, .int x0, .int x1, .int x2, .int x3] : List Value).toArray s 0 0 A) (F0 m 78 ls []) := by
          intro m_78 em_78 H locs hP hD hS ls hl
          try dsimp only at em_78
          refine lv_iconst (v := 0) hx hb dX12_translate_78 (by decide) ?_
          refine lv_istore (lv' := [(5, .int 0), (0, .ref a_mo), (1, .int x0), (2, .int x1), (3, .int x2), (4, .int x3)]) hx hb dX12_translate_79 hl (by decide) rfl (fun ls hl => ?_)
          obtain ⟨g_81, eg_81⟩ : ∃ z : ((Int32 × (Nat → Int32)) × Nat), z = LX12_translate_81 x0 x1 x2 x3 (msU x1 0 + 1) (0, v_mF) := ⟨_, rfl⟩
          have K_81_0 : g_81.2 = 0 → ∀ (H : Heap) (locs : List Loc), va_P D vwCl (wX12_translate cI cB a_mo a_mem a_mks a_mr a_cnt a_wd a_one a_two a_mmade a_mrest a_old v_thrown v_mask v_key v_wait v_problem v_code v_length m_78 v_masks v_addr v_mwanted g_18.1 v_after v_calls v_oneB v_twoB g_81.1.2 v_mkF v_mrF) H → va_D A (wX12_translate cI cB a_mo a_mem a_mks a_mr a_cnt a_wd a_one a_two a_mmade a_mrest a_old v_thrown v_mask v_key v_wait v_problem v_code v_length m_78 v_masks v_addr v_mwanted g_18.1 v_after v_calls v_oneB v_twoB g_81.1.2 v_mkF v_mrF) → va_S A s.heap H locs → ∀ (ls : Array Slot), lv_has ls 7 [(0, .ref a_mo), (1, .int x0), (2, .int x1), (3, .int x2), (4, .int x3), (5, .int g_81.1.1), (6, .int ((g_81.1.2 (((x3 + (g_81.1.2 ((x2 + g_81.1.1) : Int32).toNatClampNeg)) &&& 16777215) : Int32).toNatClampNeg)))] → W p l e rmX12_translate s m ([.ref a_mo, .int x0, .int x1, .int x2, .int x3] : List Value).toArray below meth c H locs 0 0 (MQ below (qX12_translate D cI cB a_mo a_mem a_mks a_mr a_cnt a_wd a_one a_two a_mmade a_mrest a_old v_thrown v_mask v_key v_wait v_problem v_code v_length v_cond v_masks v_addr v_mwanted v_wrong v_after v_calls v_oneB v_twoB v_mF v_mkF v_mrF x0 x1 x2 x3 A) ([.ref a_mo, .int x0, .int x1, .int x2, .int x3] : List Value).toArray s 0 0 A) (F0 m 132 ls []) := by
            intro ex_81_0 H locs hP hD hS ls hl
            refine lv_aload_n hx hb dX12_translate_132 rfl (lv_at hl 0 rfl) ?_
            refine va_get (D := D) (ci := 12) (v := .ref a_mr) (C := RX12) (T := TX12) (N := 26) hx hb hts in_X12 hown hK hP 0 rfl rfl 3 (by decide) q_4 (fun _ h9 => h9) rfl dX12_translate_133 ?_
            refine lv_iconst (v := 1) hx hb dX12_translate_136 (by decide) ?_
            refine lv_aload_n hx hb dX12_translate_137 rfl (lv_at hl 0 rfl) ?_
            refine va_get (D := D) (ci := 12) (v := .ref a_mr) (C := RX12) (T := TX12) (N := 26) hx hb hts in_X12 hown hK hP 0 rfl rfl 3 (by decide) q_4 (fun _ h9 => h9) rfl dX12_translate_138 ?_
            refine lv_iconst (v := 1) hx hb dX12_translate_141 (by decide) ?_
            refine va_iald hx hb hK hP 3 0 rfl rfl (by unfold vp_in; decide) dX12_translate_142 ?_
            refine lv_ldc (v := (-16777216)) hx hb hown q_5 dX12_translate_143 ?_
            refine lv_iand hx hb dX12_translate_145 ?_
            refine lv_iload_n hx hb dX12_translate_146 rfl (lv_at hl 3 rfl) ?_
            refine lv_iload hx hb dX12_translate_147 (lv_at hl 5 rfl) ?_
            refine lv_iadd hx hb dX12_translate_149 ?_
            refine lv_ior hx hb dX12_translate_150 ?_
            refine va_iast hx hb hK hP hD hS 3 0 rfl rfl (by unfold vp_in; decide) dX12_translate_151 (fun H locs hP hD hS => ?_)
            obtain ⟨f_151, ef_151⟩ : ∃ z : Nat → Int32, z = upd v_mrF (1 : Int32).toNatClampNeg ((((v_mrF (1 : Int32).toNatClampNeg) &&& (-16777216 : Int32)) ||| (x2 + g_81.1.1))) := ⟨_, rfl⟩
            have hP : va_P D vwCl (wX12_translate cI cB a_mo a_mem a_mks a_mr a_cnt a_wd a_one a_two a_mmade a_mrest a_old v_thrown v_mask v_key v_wait v_problem v_code v_length m_78 v_masks v_addr v_mwanted g_18.1 v_after v_calls v_oneB v_twoB g_81.1.2 v_mkF (upd v_mrF (1 : Int32).toNatClampNeg ((((v_mrF (1 : Int32).toNatClampNeg) &&& (-16777216 : Int32)) ||| (x2 + g_81.1.1))))) H := hP
            have hD : va_D A (wX12_translate cI cB a_mo a_mem a_mks a_mr a_cnt a_wd a_one a_two a_mmade a_mrest a_old v_thrown v_mask v_key v_wait v_problem v_code v_length m_78 v_masks v_addr v_mwanted g_18.1 v_after v_calls v_oneB v_twoB g_81.1.2 v_mkF (upd v_mrF (1 : Int32).toNatClampNeg ((((v_mrF (1 : Int32).toNatClampNeg) &&& (-16777216 : Int32)) ||| (x2 + g_81.1.1))))) := hD
            rw [← ef_151] at hP hD
            refine lv_aload_n hx hb dX12_translate_152 rfl (lv_at hl 0 rfl) ?_
            refine va_get (D := D) (ci := 12) (v := .ref a_mr) (C := RX12) (T := TX12) (N := 26) hx hb hts in_X12 hown hK hP 0 rfl rfl 3 (by decide) q_4 (fun _ h9 => h9) rfl dX12_translate_153 ?_
            refine lv_iconst (v := 2) hx hb dX12_translate_156 (by decide) ?_
            refine lv_aload_n hx hb dX12_translate_157 rfl (lv_at hl 0 rfl) ?_
            refine va_get (D := D) (ci := 12) (v := .ref a_mr) (C := RX12) (T := TX12) (N := 26) hx hb hts in_X12 hown hK hP 0 rfl rfl 3 (by decide) q_4 (fun _ h9 => h9) rfl dX12_translate_158 ?_
            refine lv_iconst (v := 2) hx hb dX12_translate_161 (by decide) ?_
            refine va_iald hx hb hK hP 3 0 rfl rfl (by unfold vp_in; decide) dX12_translate_162 ?_
            refine lv_sipush (v := (-256)) hx hb dX12_translate_163 (by decide) ?_
            refine lv_iand hx hb dX12_translate_166 ?_
            refine lv_iload hx hb dX12_translate_167 (lv_at hl 6 rfl) ?_
            refine lv_ior hx hb dX12_translate_169 ?_
            refine va_iast hx hb hK hP hD hS 3 0 rfl rfl (by unfold vp_in; decide) dX12_translate_170 (fun H locs hP hD hS => ?_)
            obtain ⟨f_170, ef_170⟩ : ∃ z : Nat → Int32, z = upd f_151 (2 : Int32).toNatClampNeg ((((f_151 (2 : Int32).toNatClampNeg) &&& (-256 : Int32)) ||| (g_81.1.2 (((x3 + (g_81.1.2 ((x2 + g_81.1.1) : Int32).toNatClampNeg)) &&& 16777215) : Int32).toNatClampNeg))) := ⟨_, rfl⟩
            have hP : va_P D vwCl (wX12_translate cI cB a_mo a_mem a_mks a_mr a_cnt a_wd a_one a_two a_mmade a_mrest a_old v_thrown v_mask v_key v_wait v_problem v_code v_length m_78 v_masks v_addr v_mwanted g_18.1 v_after v_calls v_oneB v_twoB g_81.1.2 v_mkF (upd f_151 (2 : Int32).toNatClampNeg ((((f_151 (2 : Int32).toNatClampNeg) &&& (-256 : Int32)) ||| (g_81.1.2 (((x3 + (g_81.1.2 ((x2 + g_81.1.1) : Int32).toNatClampNeg)) &&& 16777215) : Int32).toNatClampNeg))))) H := hP
            have hD : va_D A (wX12_translate cI cB a_mo a_mem a_mks a_mr a_cnt a_wd a_one a_two a_mmade a_mrest a_old v_thrown v_mask v_key v_wait v_problem v_code v_length m_78 v_masks v_addr v_mwanted g_18.1 v_after v_calls v_oneB v_twoB g_81.1.2 v_mkF (upd f_151 (2 : Int32).toNatClampNeg ((((f_151 (2 : Int32).toNatClampNeg) &&& (-256 : Int32)) ||| (g_81.1.2 (((x3 + (g_81.1.2 ((x2 + g_81.1.1) : Int32).toNatClampNeg)) &&& 16777215) : Int32).toNatClampNeg))))) := hD
            rw [← ef_170] at hP hD
            refine lv_aload_n hx hb dX12_translate_171 rfl (lv_at hl 0 rfl) ?_
            refine lv_iload hx hb dX12_translate_172 (lv_at hl 5 rfl) ?_
            refine lv_iload_n hx hb dX12_translate_174 rfl (lv_at hl 2 rfl) ?_
            refine lv_iconst (v := 1) hx hb dX12_translate_175 (by decide) ?_
            refine lv_isub hx hb dX12_translate_176 ?_
            have J_185 : ∀ (m_185 : Int32), m_185 = (if g_81.1.1 = (x1 - 1) then (2) else (1)) → ∀ (H : Heap) (locs : List Loc), va_P D vwCl (wX12_translate cI cB a_mo a_mem a_mks a_mr a_cnt a_wd a_one a_two a_mmade a_mrest a_old v_thrown v_mask v_key v_wait v_problem v_code v_length m_78 v_masks v_addr v_mwanted g_18.1 v_after v_calls v_oneB v_twoB g_81.1.2 v_mkF f_170) H → va_D A (wX12_translate cI cB a_mo a_mem a_mks a_mr a_cnt a_wd a_one a_two a_mmade a_mrest a_old v_thrown v_mask v_key v_wait v_problem v_code v_length m_78 v_masks v_addr v_mwanted g_18.1 v_after v_calls v_oneB v_twoB g_81.1.2 v_mkF f_170) → va_S A s.heap H locs → ∀ (ls : Array Slot), lv_has ls 7 [(0, .ref a_mo), (1, .int x0), (2, .int x1), (3, .int x2), (4, .int x3), (5, .int g_81.1.1), (6, .int ((g_81.1.2 (((x3 + (g_81.1.2 ((x2 + g_81.1.1) : Int32).toNatClampNeg)) &&& 16777215) : Int32).toNatClampNeg)))] → W p l e rmX12_translate s m ([.ref a_mo, .int x0, .int x1, .int x2, .int x3] : List Value).toArray below meth c H locs 0 0 (MQ below (qX12_translate D cI cB a_mo a_mem a_mks a_mr a_cnt a_wd a_one a_two a_mmade a_mrest a_old v_thrown v_mask v_key v_wait v_problem v_code v_length v_cond v_masks v_addr v_mwanted v_wrong v_after v_calls v_oneB v_twoB v_mF v_mkF v_mrF x0 x1 x2 x3 A) ([.ref a_mo, .int x0, .int x1, .int x2, .int x3] : List Value).toArray s 0 0 A) (F0 m 185 ls [.int m_185, .ref a_mo]) := by
              intro m_185 em_185 H locs hP hD hS ls hl
              try dsimp only at em_185
              refine va_put (D := D) (ci := 12) (v := .int m_185) (ty := .int) (C := RX12) (T := TX12) (N := 26) hx hb hts in_X12 tyX12 tyX12_ok nmX12 hown hK hP hD hS 0 rfl rfl 10 (by decide) q_3 (fun _ h9 => h9) rfl (by decide +kernel) rfl rfl (Nat.le_of_ble_eq_true rfl) dX12_translate_185 (fun H locs hP hD hS => ?_)
              have hP : va_P D vwCl (wX12_translate cI cB a_mo a_mem a_mks a_mr a_cnt a_wd a_one a_two a_mmade a_mrest a_old v_thrown v_mask v_key v_wait v_problem v_code v_length m_185 v_masks v_addr v_mwanted g_18.1 v_after v_calls v_oneB v_twoB g_81.1.2 v_mkF f_170) H := hP
              have hD : va_D A (wX12_translate cI cB a_mo a_mem a_mks a_mr a_cnt a_wd a_one a_two a_mmade a_mrest a_old v_thrown v_mask v_key v_wait v_problem v_code v_length m_185 v_masks v_addr v_mwanted g_18.1 v_after v_calls v_oneB v_twoB g_81.1.2 v_mkF f_170) := hD
              have hf9 : (m_185, g_18.1, g_81.1.2, f_170) = fX12_translate x0 x1 x2 x3 v_key v_cond v_wrong v_mF v_mkF v_mrF := by subst ef_170; subst ef_151; simp only [fX12_translate, ← em_12, ← eu_12, ← eg_18, ← em_78, ← eg_81, ← em_185]; (try simp only [if_pos c_65, if_pos ex_81_0])
              exact W.vret hx hb hr (fun t9 ht9 hW9 => ⟨⟨(m_185, g_18.1, g_81.1.2, f_170), rfl, hf9, ⟨by rw [ht9]; exact hP, va_K.moved hW9.alike hK, hD⟩⟩, hS.F ht9⟩) hS.2.2 dX12_translate_188
            refine lv_icmp_ne (tgt := 184) hx hb dX12_translate_177 (by decide) (fun c_177 => ?_) (fun c_177 => ?_)
            · skip
              refine lv_iconst (v := 1) hx hb dX12_translate_184 (by decide) ?_
              exact J_185 1 (by (try simp only [if_neg c_177])) _ _ hP hD hS ls (lv_sub hl [0, 1, 2, 3, 4, 5, 6] rfl)
            · skip
              refine lv_iconst (v := 2) hx hb dX12_translate_180 (by decide) ?_
              refine lv_goto (tgt := 185) hx hb dX12_translate_181 (by decide) ?_
              exact J_185 2 (by (try simp only [if_pos c_177])) _ _ hP hD hS ls (lv_sub hl [0, 1, 2, 3, 4, 5, 6] rfl)
          have K_81_1 : g_81.2 = 1 → ∀ (H : Heap) (locs : List Loc), va_P D vwCl (wX12_translate cI cB a_mo a_mem a_mks a_mr a_cnt a_wd a_one a_two a_mmade a_mrest a_old v_thrown v_mask v_key v_wait v_problem v_code v_length m_78 v_masks v_addr v_mwanted g_18.1 v_after v_calls v_oneB v_twoB g_81.1.2 v_mkF v_mrF) H → va_D A (wX12_translate cI cB a_mo a_mem a_mks a_mr a_cnt a_wd a_one a_two a_mmade a_mrest a_old v_thrown v_mask v_key v_wait v_problem v_code v_length m_78 v_masks v_addr v_mwanted g_18.1 v_after v_calls v_oneB v_twoB g_81.1.2 v_mkF v_mrF) → va_S A s.heap H locs → ∀ (ls : Array Slot), lv_has ls 7 [(0, .ref a_mo), (1, .int x0), (2, .int x1), (3, .int x2), (4, .int x3), (5, .int g_81.1.1)] → W p l e rmX12_translate s m ([.ref a_mo, .int x0, .int x1, .int x2, .int x3] : List Value).toArray below meth c H locs 0 0 (MQ below (qX12_translate D cI cB a_mo a_mem a_mks a_mr a_cnt a_wd a_one a_two a_mmade a_mrest a_old v_thrown v_mask v_key v_wait v_problem v_code v_length v_cond v_masks v_addr v_mwanted v_wrong v_after v_calls v_oneB v_twoB v_mF v_mkF v_mrF x0 x1 x2 x3 A) ([.ref a_mo, .int x0, .int x1, .int x2, .int x3] : List Value).toArray s 0 0 A) (F0 m 195 ls []) := by
            intro ex_81_1 H locs hP hD hS ls hl
            have exn_81_1_0 : ¬ g_81.2 = 0 := by rw [ex_81_1]; decide
            have hf9 : (m_78, g_18.1, g_81.1.2, v_mrF) = fX12_translate x0 x1 x2 x3 v_key v_cond v_wrong v_mF v_mkF v_mrF := by simp only [fX12_translate, ← em_12, ← eu_12, ← eg_18, ← em_78, ← eg_81]; (try simp only [if_pos c_65, if_neg exn_81_1_0])
            exact W.vret hx hb hr (fun t9 ht9 hW9 => ⟨⟨(m_78, g_18.1, g_81.1.2, v_mrF), rfl, hf9, ⟨by rw [ht9]; exact hP, va_K.moved hW9.alike hK, hD⟩⟩, hS.F ht9⟩) hS.2.2 dX12_translate_195
          have lp_81 : ∀ (n9 : Nat) (w_81 : (Int32 × (Nat → Int32))), msU x1 w_81.1 < n9 → (0 ≤ w_81.1 ∧ trI x1 x2 v_mF w_81.2 w_81.1) → LX12_translate_81 x0 x1 x2 x3 n9 w_81 = g_81 → ∀ (H : Heap) (locs : List Loc), va_P D vwCl (wX12_translate cI cB a_mo a_mem a_mks a_mr a_cnt a_wd a_one a_two a_mmade a_mrest a_old v_thrown v_mask v_key v_wait v_problem v_code v_length m_78 v_masks v_addr v_mwanted g_18.1 v_after v_calls v_oneB v_twoB w_81.2 v_mkF v_mrF) H → va_D A (wX12_translate cI cB a_mo a_mem a_mks a_mr a_cnt a_wd a_one a_two a_mmade a_mrest a_old v_thrown v_mask v_key v_wait v_problem v_code v_length m_78 v_masks v_addr v_mwanted g_18.1 v_after v_calls v_oneB v_twoB w_81.2 v_mkF v_mrF) → va_S A s.heap H locs → ∀ (ls : Array Slot), lv_has ls 7 [(0, .ref a_mo), (1, .int x0), (2, .int x1), (3, .int x2), (4, .int x3), (5, .int w_81.1)] → W p l e rmX12_translate s m ([.ref a_mo, .int x0, .int x1, .int x2, .int x3] : List Value).toArray below meth c H locs 0 0 (MQ below (qX12_translate D cI cB a_mo a_mem a_mks a_mr a_cnt a_wd a_one a_two a_mmade a_mrest a_old v_thrown v_mask v_key v_wait v_problem v_code v_length v_cond v_masks v_addr v_mwanted v_wrong v_after v_calls v_oneB v_twoB v_mF v_mkF v_mrF x0 x1 x2 x3 A) ([.ref a_mo, .int x0, .int x1, .int x2, .int x3] : List Value).toArray s 0 0 A) (F0 m 81 ls []) := by
            intro n9
            induction n9 with
            | zero => intro w_81 hm9; exact absurd hm9 (Nat.not_lt_zero _)
            | succ n9 ih =>
              intro w_81 hm9 hI9 hL9 H locs hP hD hS ls hl
              have hI_81 := hI9
              refine lv_iload hx hb dX12_translate_81 (lv_at hl 5 rfl) ?_
              refine lv_iload_n hx hb dX12_translate_83 rfl (lv_at hl 2 rfl) ?_
              refine lv_icmp_ge (tgt := 195) hx hb dX12_translate_84 (by decide) (fun c_84 => ?_) (fun c_84 => ?_)
              · skip
                have hg9 : ((w_81.1, w_81.2), 1) = g_81 := by rw [← hL9]; simp only [LX12_translate_81]; (try simp only [if_pos c_84])
                subst hg9
                exact K_81_1 rfl _ _ hP hD hS ls (lv_sub hl [0, 1, 2, 3, 4, 5] rfl)
              · skip
                refine lv_aload_n hx hb dX12_translate_87 rfl (lv_at hl 0 rfl) ?_
                refine va_get (D := D) (ci := 12) (v := .ref a_mem) (C := RX12) (T := TX12) (N := 26) hx hb hts in_X12 hown hK hP 0 rfl rfl 1 (by decide) q_0 (fun _ h9 => h9) rfl dX12_translate_88 ?_
                refine lv_iload hx hb dX12_translate_91 (lv_at hl 4 rfl) ?_
                refine lv_aload_n hx hb dX12_translate_93 rfl (lv_at hl 0 rfl) ?_
                refine va_get (D := D) (ci := 12) (v := .ref a_mem) (C := RX12) (T := TX12) (N := 26) hx hb hts in_X12 hown hK hP 0 rfl rfl 1 (by decide) q_0 (fun _ h9 => h9) rfl dX12_translate_94 ?_
                refine lv_iload_n hx hb dX12_translate_97 rfl (lv_at hl 3 rfl) ?_
                refine lv_iload hx hb dX12_translate_98 (lv_at hl 5 rfl) ?_
                refine lv_iadd hx hb dX12_translate_100 ?_
                refine va_iald hx hb hK hP 1 0 rfl rfl (inM_at hT.1 hI9.1 c_84) dX12_translate_101 ?_
                refine lv_iadd hx hb dX12_translate_102 ?_
                refine lv_ldc (v := 16777215) hx hb hown q_1 dX12_translate_103 ?_
                refine lv_iand hx hb dX12_translate_105 ?_
                refine va_iald hx hb hK hP 1 0 rfl rfl (tr_in hT.1 hT.2 hI9.1 c_84 hI9.2) dX12_translate_106 ?_
                refine lv_topi (fun x_107 ex_107 => ?_)
                refine lv_istore (lv' := [(6, .int x_107), (0, .ref a_mo), (1, .int x0), (2, .int x1), (3, .int x2), (4, .int x3), (5, .int w_81.1)]) hx hb dX12_translate_107 hl (by decide) rfl (fun ls hl => ?_)
                refine lv_iload_n hx hb dX12_translate_109 rfl (lv_at hl 2 rfl) ?_
                refine lv_if_ne (tgt := 127) hx hb dX12_translate_110 (by decide) (fun c_110 => ?_) (fun c_110 => ?_)
                · skip
                  refine lv_iload hx hb dX12_translate_127 (lv_at hl 0 rfl) ?_
                  refine lv_if_eq (tgt := 189) hx hb dX12_translate_129 (by decide) (fun c_129 => ?_) (fun c_129 => ?_)
                  · skip
                    obtain ⟨x_189, ex_189⟩ : ∃ z : Int32, z = w_81.1 + 1 := ⟨_, rfl⟩
                    refine lv_iinc (v := x_189) (lv' := [(5, .int x_189), (6, .int x_107), (0, .ref a_mo), (1, .int x0), (2, .int x1), (3, .int x2), (4, .int x3)]) hx hb dX12_translate_189 hl (k := 6) rfl (by rw [ex_189]; rfl) (by decide) rfl (fun ls hl => ?_)
                    refine lv_goto (tgt := 81) hx hb dX12_translate_192 (by decide) ?_
                    exact ih (x_189, w_81.2) (by subst ex_189; subst ex_107; exact Nat.lt_of_lt_of_le (ms_up c_84) (Nat.le_of_lt_succ hm9)) (⟨by subst ex_189; subst ex_107; exact nn_up hI9.1 c_84, by subst ex_189; subst ex_107; first | exact trI_s hT.1 hn.2 hI9.1 c_84 hI9.2 | exact trI_k hI9.1 c_84 hI9.2⟩) (by rw [← hL9]; subst ex_189; subst ex_107; simp only [LX12_translate_81]; (try simp only [if_neg c_84, if_neg c_110, if_pos c_129])) _ _ hP hD hS ls (lv_sub hl [2, 3, 4, 5, 6, 0] rfl)
                  · skip
                    have hg9 : ((w_81.1, w_81.2), 0) = g_81 := by rw [← hL9]; subst ex_107; simp only [LX12_translate_81]; (try simp only [if_neg c_84, if_neg c_110, if_neg c_129])
                    subst hg9
                    subst ex_107
                    exact K_81_0 rfl _ _ hP hD hS ls (lv_sub hl [1, 2, 3, 4, 5, 6, 0] rfl)
                · skip
                  refine lv_aload_n hx hb dX12_translate_113 rfl (lv_at hl 1 rfl) ?_
                  refine va_get (D := D) (ci := 12) (v := .ref a_mem) (C := RX12) (T := TX12) (N := 26) hx hb hts in_X12 hown hK hP 0 rfl rfl 1 (by decide) q_0 (fun _ h9 => h9) rfl dX12_translate_114 ?_
                  refine lv_iload_n hx hb dX12_translate_117 rfl (lv_at hl 4 rfl) ?_
                  refine lv_iload hx hb dX12_translate_118 (lv_at hl 6 rfl) ?_
                  refine lv_iadd hx hb dX12_translate_120 ?_
                  refine lv_iload hx hb dX12_translate_121 (lv_at hl 0 rfl) ?_
                  refine va_iast hx hb hK hP hD hS 1 0 rfl rfl (inM_at hT.1 hI9.1 c_84) dX12_translate_123 (fun H locs hP hD hS => ?_)
                  obtain ⟨f_123, ef_123⟩ : ∃ z : Nat → Int32, z = upd w_81.2 ((x2 + w_81.1) : Int32).toNatClampNeg (x_107) := ⟨_, rfl⟩
                  have hP : va_P D vwCl (wX12_translate cI cB a_mo a_mem a_mks a_mr a_cnt a_wd a_one a_two a_mmade a_mrest a_old v_thrown v_mask v_key v_wait v_problem v_code v_length m_78 v_masks v_addr v_mwanted g_18.1 v_after v_calls v_oneB v_twoB (upd w_81.2 ((x2 + w_81.1) : Int32).toNatClampNeg (x_107)) v_mkF v_mrF) H := hP
                  have hD : va_D A (wX12_translate cI cB a_mo a_mem a_mks a_mr a_cnt a_wd a_one a_two a_mmade a_mrest a_old v_thrown v_mask v_key v_wait v_problem v_code v_length m_78 v_masks v_addr v_mwanted g_18.1 v_after v_calls v_oneB v_twoB (upd w_81.2 ((x2 + w_81.1) : Int32).toNatClampNeg (x_107)) v_mkF v_mrF) := hD
                  rw [← ef_123] at hP hD
                  refine lv_goto (tgt := 189) hx hb dX12_translate_124 (by decide) ?_
                  obtain ⟨x_189, ex_189⟩ : ∃ z : Int32, z = w_81.1 + 1 := ⟨_, rfl⟩
                  refine lv_iinc (v := x_189) (lv' := [(5, .int x_189), (6, .int x_107), (0, .ref a_mo), (1, .int x0), (2, .int x1), (3, .int x2), (4, .int x3)]) hx hb dX12_translate_189 hl (k := 6) rfl (by rw [ex_189]; rfl) (by decide) rfl (fun ls hl => ?_)
                  refine lv_goto (tgt := 81) hx hb dX12_translate_192 (by decide) ?_
                  exact ih (x_189, f_123) (by subst ex_189; subst ef_123; subst ex_107; exact Nat.lt_of_lt_of_le (ms_up c_84) (Nat.le_of_lt_succ hm9)) (⟨by subst ex_189; subst ef_123; subst ex_107; exact nn_up hI9.1 c_84, by subst ex_189; subst ef_123; subst ex_107; first | exact trI_s hT.1 hn.2 hI9.1 c_84 hI9.2 | exact trI_k hI9.1 c_84 hI9.2⟩) (by rw [← hL9]; subst ex_189; subst ef_123; subst ex_107; simp only [LX12_translate_81]; (try simp only [if_neg c_84, if_pos c_110])) _ _ hP hD hS ls (lv_sub hl [2, 3, 4, 5, 6, 0] rfl)
          exact lp_81 (msU x1 0 + 1) (0, v_mF) (Nat.lt_succ_self _) (⟨(by show (0 : Int32) ≤ 0; decide), trI_0⟩) eg_81.symm _ _ hP hD hS ls (lv_sub hl [1, 2, 3, 4, 5, 0] rfl)
        refine lv_if_eq (tgt := 78) hx hb dX12_translate_70 (by decide) (fun c_70 => ?_) (fun c_70 => ?_)
        · skip
          exact J_78 v_cond (by (try simp only [if_pos c_70])) _ _ hP hD hS ls (lv_sub hl [0, 1, 2, 3, 4, 5] rfl)
        · skip
          refine lv_aload_n hx hb dX12_translate_73 rfl (lv_at hl 0 rfl) ?_
          refine lv_iconst (v := 0) hx hb dX12_translate_74 (by decide) ?_
          refine va_put (D := D) (ci := 12) (v := .int 0) (ty := .int) (C := RX12) (T := TX12) (N := 26) hx hb hts in_X12 tyX12 tyX12_ok nmX12 hown hK hP hD hS 0 rfl rfl 10 (by decide) q_3 (fun _ h9 => h9) rfl (by decide +kernel) rfl rfl (Nat.le_of_ble_eq_true rfl) dX12_translate_75 (fun H locs hP hD hS => ?_)
          have hP : va_P D vwCl (wX12_translate cI cB a_mo a_mem a_mks a_mr a_cnt a_wd a_one a_two a_mmade a_mrest a_old v_thrown v_mask v_key v_wait v_problem v_code v_length 0 v_masks v_addr v_mwanted g_18.1 v_after v_calls v_oneB v_twoB v_mF v_mkF v_mrF) H := hP
          have hD : va_D A (wX12_translate cI cB a_mo a_mem a_mks a_mr a_cnt a_wd a_one a_two a_mmade a_mrest a_old v_thrown v_mask v_key v_wait v_problem v_code v_length 0 v_masks v_addr v_mwanted g_18.1 v_after v_calls v_oneB v_twoB v_mF v_mkF v_mrF) := hD
          exact J_78 0 (by (try simp only [if_neg c_70])) _ _ hP hD hS ls (lv_sub hl [0, 1, 2, 3, 4, 5] rfl)
      · skip
        have hf9 : (v_cond, g_18.1, v_mF, v_mrF) = fX12_translate x0 x1 x2 x3 v_key v_cond v_wrong v_mF v_mkF v_mrF := by simp only [fX12_translate, ← em_12, ← eu_12, ← eg_18]; (try simp only [if_neg c_65])
        exact W.vret hx hb hr (fun t9 ht9 hW9 => ⟨⟨(v_cond, g_18.1, v_mF, v_mrF), rfl, hf9, ⟨by rw [ht9]; exact hP, va_K.moved hW9.alike hK, hD⟩⟩, hS.F ht9⟩) hS.2.2 dX12_translate_68
    have lp_18 : ∀ (n9 : Nat) (w_18 : (Int32 × Int32)), msU x1 w_18.2 < n9 → 0 ≤ w_18.2 → LX12_translate_18 x1 x2 x3 v_key v_mF v_mkF n9 w_18 = g_18 → ∀ (H : Heap) (locs : List Loc), va_P D vwCl (wX12_translate cI cB a_mo a_mem a_mks a_mr a_cnt a_wd a_one a_two a_mmade a_mrest a_old v_thrown v_mask v_key v_wait v_problem v_code v_length v_cond v_masks v_addr v_mwanted w_18.1 v_after v_calls v_oneB v_twoB v_mF v_mkF v_mrF) H → va_D A (wX12_translate cI cB a_mo a_mem a_mks a_mr a_cnt a_wd a_one a_two a_mmade a_mrest a_old v_thrown v_mask v_key v_wait v_problem v_code v_length v_cond v_masks v_addr v_mwanted w_18.1 v_after v_calls v_oneB v_twoB v_mF v_mkF v_mrF) → va_S A s.heap H locs → ∀ (ls : Array Slot), lv_has ls 7 [(0, .ref a_mo), (1, .int x0), (2, .int x1), (3, .int x2), (4, .int x3), (5, .int w_18.2)] → W p l e rmX12_translate s m ([.ref a_mo, .int x0, .int x1, .int x2, .int x3] : List Value).toArray below meth c H locs 0 0 (MQ below (qX12_translate D cI cB a_mo a_mem a_mks a_mr a_cnt a_wd a_one a_two a_mmade a_mrest a_old v_thrown v_mask v_key v_wait v_problem v_code v_length v_cond v_masks v_addr v_mwanted v_wrong v_after v_calls v_oneB v_twoB v_mF v_mkF v_mrF x0 x1 x2 x3 A) ([.ref a_mo, .int x0, .int x1, .int x2, .int x3] : List Value).toArray s 0 0 A) (F0 m 18 ls []) := by
      intro n9
      induction n9 with
      | zero => intro w_18 hm9; exact absurd hm9 (Nat.not_lt_zero _)
      | succ n9 ih =>
        intro w_18 hm9 hI9 hL9 H locs hP hD hS ls hl
        have hI_18 := hI9
        refine lv_iload hx hb dX12_translate_18 (lv_at hl 5 rfl) ?_
        refine lv_iload_n hx hb dX12_translate_20 rfl (lv_at hl 2 rfl) ?_
        refine lv_icmp_ge (tgt := 61) hx hb dX12_translate_21 (by decide) (fun c_21 => ?_) (fun c_21 => ?_)
        · skip
          have hg9 : (w_18.1, w_18.2) = g_18 := by rw [← hL9]; simp only [LX12_translate_18]; (try simp only [if_pos c_21])
          subst hg9
          exact K_18_0 _ _ hP hD hS ls (lv_sub hl [0, 1, 2, 3, 4, 5] rfl)
        · skip
          refine lv_iload_n hx hb dX12_translate_24 rfl (lv_at hl 3 rfl) ?_
          refine lv_iload hx hb dX12_translate_25 (lv_at hl 5 rfl) ?_
          refine lv_iadd hx hb dX12_translate_27 ?_
          refine lv_sipush (v := 8192) hx hb dX12_translate_28 (by decide) ?_
          have J_55 : ∀ (m_55 : Int32), m_55 = (if 8192 ≤ (x2 + w_18.2) then (w_18.1) else (let u_52 := fX12_look ((x3 + (v_mF ((x2 + w_18.2) : Int32).toNatClampNeg)) &&& 16777215) 1 0 v_key w_18.1 v_mkF; u_52)) → ∀ (H : Heap) (locs : List Loc), va_P D vwCl (wX12_translate cI cB a_mo a_mem a_mks a_mr a_cnt a_wd a_one a_two a_mmade a_mrest a_old v_thrown v_mask v_key v_wait v_problem v_code v_length v_cond v_masks v_addr v_mwanted m_55 v_after v_calls v_oneB v_twoB v_mF v_mkF v_mrF) H → va_D A (wX12_translate cI cB a_mo a_mem a_mks a_mr a_cnt a_wd a_one a_two a_mmade a_mrest a_old v_thrown v_mask v_key v_wait v_problem v_code v_length v_cond v_masks v_addr v_mwanted m_55 v_after v_calls v_oneB v_twoB v_mF v_mkF v_mrF) → va_S A s.heap H locs → ∀ (ls : Array Slot), lv_has ls 7 [(0, .ref a_mo), (1, .int x0), (2, .int x1), (3, .int x2), (4, .int x3), (5, .int w_18.2)] → W p l e rmX12_translate s m ([.ref a_mo, .int x0, .int x1, .int x2, .int x3] : List Value).toArray below meth c H locs 0 0 (MQ below (qX12_translate D cI cB a_mo a_mem a_mks a_mr a_cnt a_wd a_one a_two a_mmade a_mrest a_old v_thrown v_mask v_key v_wait v_problem v_code v_length v_cond v_masks v_addr v_mwanted v_wrong v_after v_calls v_oneB v_twoB v_mF v_mkF v_mrF x0 x1 x2 x3 A) ([.ref a_mo, .int x0, .int x1, .int x2, .int x3] : List Value).toArray s 0 0 A) (F0 m 55 ls []) := by
            intro m_55 em_55 H locs hP hD hS ls hl
            try dsimp only at em_55
            obtain ⟨x_55, ex_55⟩ : ∃ z : Int32, z = w_18.2 + 1 := ⟨_, rfl⟩
            refine lv_iinc (v := x_55) (lv' := [(5, .int x_55), (0, .ref a_mo), (1, .int x0), (2, .int x1), (3, .int x2), (4, .int x3)]) hx hb dX12_translate_55 hl (k := 5) rfl (by rw [ex_55]; rfl) (by decide) rfl (fun ls hl => ?_)
            refine lv_goto (tgt := 18) hx hb dX12_translate_58 (by decide) ?_
            exact ih (m_55, x_55) (by subst ex_55; subst em_55;  exact Nat.lt_of_lt_of_le (ms_up c_21) (Nat.le_of_lt_succ hm9)) (by subst ex_55; subst em_55;  exact nn_up hI9 c_21) (by rw [← hL9]; subst ex_55; simp only [LX12_translate_18, ← em_55]; (try simp only [if_neg c_21])) _ _ hP hD hS ls (lv_sub hl [1, 2, 3, 4, 5, 0] rfl)
          refine lv_icmp_ge (tgt := 55) hx hb dX12_translate_31 (by decide) (fun c_31 => ?_) (fun c_31 => ?_)
          · skip
            exact J_55 w_18.1 (by (try simp only [if_pos c_31])) _ _ hP hD hS ls (lv_sub hl [0, 1, 2, 3, 4, 5] rfl)
          · skip
            refine lv_aload_n hx hb dX12_translate_34 rfl (lv_at hl 0 rfl) ?_
            refine lv_iload hx hb dX12_translate_35 (lv_at hl 4 rfl) ?_
            refine lv_aload_n hx hb dX12_translate_37 rfl (lv_at hl 0 rfl) ?_
            refine va_get (D := D) (ci := 12) (v := .ref a_mem) (C := RX12) (T := TX12) (N := 26) hx hb hts in_X12 hown hK hP 0 rfl rfl 1 (by decide) q_0 (fun _ h9 => h9) rfl dX12_translate_38 ?_
            refine lv_iload_n hx hb dX12_translate_41 rfl (lv_at hl 3 rfl) ?_
            refine lv_iload hx hb dX12_translate_42 (lv_at hl 5 rfl) ?_
            refine lv_iadd hx hb dX12_translate_44 ?_
            refine va_iald hx hb hK hP 1 0 rfl rfl (tr_a ha hn.2 hI9 c_21 c_31) dX12_translate_45 ?_
            refine lv_iadd hx hb dX12_translate_46 ?_
            refine lv_ldc (v := 16777215) hx hb hown q_1 dX12_translate_47 ?_
            refine lv_iand hx hb dX12_translate_49 ?_
            refine lv_iconst (v := 1) hx hb dX12_translate_50 (by decide) ?_
            refine lv_iconst (v := 0) hx hb dX12_translate_51 (by decide) ?_
            have hPc : va_P D vwCl (wX12_look cI cB a_mo a_mem a_mks a_mr a_cnt a_wd a_one a_two a_mmade a_mrest a_old v_thrown v_mask v_key v_wait v_problem v_code v_length v_cond v_masks v_addr v_mwanted w_18.1 v_after v_calls v_oneB v_twoB v_mkF) H := hP.sub [0, 2] rfl
            have hDc : va_D A (wX12_look cI cB a_mo a_mem a_mks a_mr a_cnt a_wd a_one a_two a_mmade a_mrest a_old v_thrown v_mask v_key v_wait v_problem v_code v_length v_cond v_masks v_addr v_mwanted w_18.1 v_after v_calls v_oneB v_twoB v_mkF) := hD.sub [0, 2] (by decide) rfl
            have hFc := va_free (wc := (wX12_look cI cB a_mo a_mem a_mks a_mr a_cnt a_wd a_one a_two a_mmade a_mrest a_old v_thrown v_mask v_key v_wait v_problem v_code v_length v_cond v_masks v_addr v_mwanted w_18.1 v_after v_calls v_oneB v_twoB v_mkF)) hD hS hA [0, 2] rfl
            refine va_callv (va_runV (As := [.int (((x3 + (v_mF ((x2 + w_18.2) : Int32).toNatClampNeg)) &&& 16777215)), .int 1, .int 0]) (rest := []) ⟨hx, hb, hml, hown, hts⟩ (kX12_look l D cI cB a_mo a_mem a_mks a_mr a_cnt a_wd a_one a_two a_mmade a_mrest a_old H.size v_thrown v_mask v_key v_wait v_problem v_code v_length v_cond v_masks v_addr v_mwanted w_18.1 v_after v_calls v_oneB v_twoB v_mkF ((x3 + (v_mF ((x2 + w_18.2) : Int32).toNatClampNeg)) &&& 16777215) 1 0) (cwV 3 hts (gd_V wd_857 wd_858 wd_859 wd_807 wd_837) rfl rfl rfl hdX12_look ⟨Nat.le_of_ble_eq_true rfl, Nat.le_of_ble_eq_true rfl⟩) (preV_std (ci := 12) (q0 := 0) hPc hK hDc hNW rfl rfl) rfl rfl hl.1 rfl (lv_room (Nat.le_of_ble_eq_true rfl)) dX12_translate_52 ⟨Nat.zero_le _, Nat.zero_le _⟩) hS (fun q _ h => hFc q h) hFc (fun u_52 t9 H1 locs ht9 hvm9 hw9 hB9 hz9 hk9 hS => ?_)
            have eu_52 : u_52 = fX12_look ((x3 + (v_mF ((x2 + w_18.2) : Int32).toNatClampNeg)) &&& 16777215) 1 0 v_key w_18.1 v_mkF := hw9
            obtain ⟨hP, hD⟩ := back_std (w1 := (wX12_look cI cB a_mo a_mem a_mks a_mr a_cnt a_wd a_one a_two a_mmade a_mrest a_old v_thrown v_mask v_key v_wait v_problem v_code v_length v_cond v_masks v_addr v_mwanted u_52 v_after v_calls v_oneB v_twoB v_mkF)) (w2 := (wX12_translate cI cB a_mo a_mem a_mks a_mr a_cnt a_wd a_one a_two a_mmade a_mrest a_old v_thrown v_mask v_key v_wait v_problem v_code v_length v_cond v_masks v_addr v_mwanted u_52 v_after v_calls v_oneB v_twoB v_mF v_mkF v_mrF)) (wr := [(a_mem, .inl (cI, 8192, .inl v_mF)), (a_mr, .inl (cI, 16, .inl v_mrF))]) hP hD [0, 2] [1, 3] [2, 0, 3, 1] rfl rfl (by decide) (by decide) hk9 hFc hB9 ht9 (by decide) rfl
            clear hB9 hk9 hz9 hvm9 ht9 hFc hPc hDc
            generalize H1 = H at hP hS ⊢
            exact J_55 u_52 (by (try simp only [← eu_52]); (try simp only [if_neg c_31])) _ _ hP hD hS ls (lv_sub hl [0, 1, 2, 3, 4, 5] rfl)
    exact lp_18 (msU x1 0 + 1) (u_12, 0) (Nat.lt_succ_self _) (by show (0 : Int32) ≤ 0; decide) eg_18.symm _ _ hP hD hS ls (lv_sub hl [1, 2, 3, 4, 5, 0] rfl)
  refine lv_if_ne (tgt := 11) hx hb dX12_translate_4 (by decide) (fun c_4 => ?_) (fun c_4 => ?_)
  · skip
    refine lv_iconst (v := 0) hx hb dX12_translate_11 (by decide) ?_
    exact J_12 0 (by (try simp only [if_neg c_4])) _ _ hP hD hS ls (lv_sub hl [0, 1, 2, 3, 4] rfl)
  · skip
    refine lv_iconst (v := 1) hx hb dX12_translate_7 (by decide) ?_
    refine lv_goto (tgt := 12) hx hb dX12_translate_8 (by decide) ?_
    exact J_12 1 (by (try simp only [if_pos c_4])) _ _ hP hD hS ls (lv_sub hl [0, 1, 2, 3, 4] rfl)
theorem hdX12_translate : yX12_translate.cls = RX12 ∧ yX12_translate.cls ≠ "java/lang/invoke/MethodHandle" ∧ yX12_translate.cls ≠ "java/lang/invoke/VarHandle" ∧ (parseMethodDescriptor yX12_translate.desc).map (fun d => d.parameters.length) = some 4 := by decide +kernel
noncomputable def fX12_half (x0 : Int32) (x1 : Int32) (v_oldF : (Nat → Int32)) : Int32 :=
  let m_23 : Int32 := (if x1 ≤ (x0 / 2) then (0) else ((v_oldF (((x1 - 1) - (x0 / 2)) : Int32).toNatClampNeg)))
  if (x0 - x0 / 2 * 2) = 0 then ((m_23 &&& 15)) else ((m_23 >>> (4 &&& 31)))
abbrev wX12_half (cI cB : ClassId) (a_mo a_mem a_mks a_mr a_cnt a_wd a_one a_two a_mmade a_mrest a_old : Nat) (v_thrown : Int32) (v_mask : Int32) (v_key : Int32) (v_wait : Int32) (v_problem : Int32) (v_code : Int32) (v_length : Int32) (v_cond : Int32) (v_masks : Int32) (v_addr : Int32) (v_mwanted : Int32) (v_wrong : Int32) (v_after : Int32) (v_calls : Int32) (v_oneB : Int32) (v_twoB : Int32) (v_oldF : (Nat → Int32)) : va_W := [(a_mo, .inr (12, [.int v_thrown, .ref a_mem, .ref a_mks, .ref a_mr, .int v_mask, .int v_key, .int v_wait, .int v_problem, .int v_code, .int v_length, .int v_cond, .int v_masks, .int v_addr, .int v_mwanted, .ref a_cnt, .ref a_wd, .int v_wrong, .int v_after, .int v_calls, .ref a_one, .int v_oneB, .ref a_two, .int v_twoB, .ref a_mmade, .ref a_mrest, .ref a_old])), (a_old, .inl (cI, 512, .inl v_oldF))]
abbrev rmX12_half : Room := { frames := 0, cells := 0, slots := 0, locals := 0 }
abbrev qX12_half (D : va_G) (cI cB : ClassId) (a_mo a_mem a_mks a_mr a_cnt a_wd a_one a_two a_mmade a_mrest a_old : Nat) (v_thrown : Int32) (v_mask : Int32) (v_key : Int32) (v_wait : Int32) (v_problem : Int32) (v_code : Int32) (v_length : Int32) (v_cond : Int32) (v_masks : Int32) (v_addr : Int32) (v_mwanted : Int32) (v_wrong : Int32) (v_after : Int32) (v_calls : Int32) (v_oneB : Int32) (v_twoB : Int32) (v_oldF : (Nat → Int32)) (x0 : Int32) (x1 : Int32) : (Nat → Prop) → Array Value → State → Outcome → State → Prop := fun A9 => va_Qi (fun (r9 : Int32) (u9 : Unit) => r9 = fX12_half x0 x1 v_oldF) (fun u9 t9 => atW D (TYS cI cB) A9 (wX12_half cI cB a_mo a_mem a_mks a_mr a_cnt a_wd a_one a_two a_mmade a_mrest a_old v_thrown v_mask v_key v_wait v_problem v_code v_length v_cond v_masks v_addr v_mwanted v_wrong v_after v_calls v_oneB v_twoB v_oldF) t9) A9
set_option maxHeartbeats 4000000 in
set_option maxRecDepth 100000 in
theorem kX12_half (l : Launch) (D : va_G) (cI cB : ClassId) (a_mo a_mem a_mks a_mr a_cnt a_wd a_one a_two a_mmade a_mrest a_old : Nat) (sz : Nat) (v_thrown : Int32) (v_mask : Int32) (v_key : Int32) (v_wait : Int32) (v_problem : Int32) (v_code : Int32) (v_length : Int32) (v_cond : Int32) (v_masks : Int32) (v_addr : Int32) (v_mwanted : Int32) (v_wrong : Int32) (v_after : Int32) (v_calls : Int32) (v_oneB : Int32) (v_twoB : Int32) (v_oldF : (Nat → Int32)) (x0 : Int32) (x1 : Int32) (hk : 0 ≤ x0.toInt) (hn : x1.toInt ≤ 16) : MetW l yX12_half (WK yX12_half cX12_half 4 (some .int)) rmX12_half D (TYS cI cB) (wX12_half cI cB a_mo a_mem a_mks a_mr a_cnt a_wd a_one a_two a_mmade a_mrest a_old v_thrown v_mask v_key v_wait v_problem v_code v_length v_cond v_masks v_addr v_mwanted v_wrong v_after v_calls v_oneB v_twoB v_oldF) sz [.ref a_mo, .int x0, .int x1] (qX12_half D cI cB a_mo a_mem a_mks a_mr a_cnt a_wd a_one a_two a_mmade a_mrest a_old v_thrown v_mask v_key v_wait v_problem v_code v_length v_cond v_masks v_addr v_mwanted v_wrong v_after v_calls v_oneB v_twoB v_oldF x0 x1) 0 0 := by
  refine met_std (by decide) rfl (Nat.le_of_ble_eq_true rfl) ?_
  intro p e s m below meth c A ls H hx hb hr hml hown hts hlocks hA hP hK hD hS hNW hl
  have hl : lv_has ls 4 [(0, .ref a_mo), (1, .int x0), (2, .int x1)] := hl
  have q_0 := hts _ (List.mem_cons_of_mem _ wd_786)
  refine lv_iload_n hx hb dX12_half_0 rfl (lv_at hl 1 rfl) ?_
  refine lv_iconst (v := 2) hx hb dX12_half_1 (by decide) ?_
  refine lv_idiv hx hb dX12_half_2 (by decide) ?_
  refine lv_iload_n hx hb dX12_half_3 rfl (lv_at hl 2 rfl) ?_
  have J_23 : ∀ (m_23 : Int32), m_23 = (if x1 ≤ (x0 / 2) then (0) else ((v_oldF (((x1 - 1) - (x0 / 2)) : Int32).toNatClampNeg))) → ∀ (H : Heap) (locs : List Loc), va_P D vwCl (wX12_half cI cB a_mo a_mem a_mks a_mr a_cnt a_wd a_one a_two a_mmade a_mrest a_old v_thrown v_mask v_key v_wait v_problem v_code v_length v_cond v_masks v_addr v_mwanted v_wrong v_after v_calls v_oneB v_twoB v_oldF) H → va_D A (wX12_half cI cB a_mo a_mem a_mks a_mr a_cnt a_wd a_one a_two a_mmade a_mrest a_old v_thrown v_mask v_key v_wait v_problem v_code v_length v_cond v_masks v_addr v_mwanted v_wrong v_after v_calls v_oneB v_twoB v_oldF) → va_S A s.heap H locs → ∀ (ls : Array Slot), lv_has ls 4 [(0, .ref a_mo), (1, .int x0), (2, .int x1)] → W p l e rmX12_half s m ([.ref a_mo, .int x0, .int x1] : List Value).toArray below meth c H locs 0 0 (MQ below (qX12_half D cI cB a_mo a_mem a_mks a_mr a_cnt a_wd a_one a_two a_mmade a_mrest a_old v_thrown v_mask v_key v_wait v_problem v_code v_length v_cond v_masks v_addr v_mwanted v_wrong v_after v_calls v_oneB v_twoB v_oldF x0 x1 A) ([.ref a_mo, .int x0, .int x1] : List Value).toArray s 0 0 A) (F0 m 23 ls [.int m_23]) := by
    intro m_23 em_23 H locs hP hD hS ls hl
    try dsimp only at em_23
    refine lv_istore_n (lv' := [(3, .int m_23), (0, .ref a_mo), (1, .int x0), (2, .int x1)]) hx hb dX12_half_23 rfl hl (by decide) rfl (fun ls hl => ?_)
    refine lv_iload_n hx hb dX12_half_24 rfl (lv_at hl 2 rfl) ?_
    refine lv_iconst (v := 2) hx hb dX12_half_25 (by decide) ?_
    refine lv_irem hx hb dX12_half_26 (by decide) ?_
    refine lv_if_ne (tgt := 37) hx hb dX12_half_27 (by decide) (fun c_27 => ?_) (fun c_27 => ?_)
    · skip
      refine lv_iload_n hx hb dX12_half_37 rfl (lv_at hl 0 rfl) ?_
      refine lv_iconst (v := 4) hx hb dX12_half_38 (by decide) ?_
      refine lv_ishr hx hb dX12_half_39 ?_
      have hf9 : (m_23 >>> (4 &&& 31)) = fX12_half x0 x1 v_oldF := by simp only [fX12_half, ← em_23]; (try simp only [if_neg c_27])
      exact W.iret hx hb hr (fun t9 ht9 hW9 => ⟨⟨(m_23 >>> (4 &&& 31)), (), rfl, hf9, ⟨by rw [ht9]; exact hP, va_K.moved hW9.alike hK, hD⟩⟩, hS.F ht9⟩) hS.2.2 dX12_half_40
    · skip
      refine lv_iload_n hx hb dX12_half_30 rfl (lv_at hl 0 rfl) ?_
      refine lv_bipush (v := 15) hx hb dX12_half_31 (by decide) ?_
      refine lv_iand hx hb dX12_half_33 ?_
      refine lv_goto (tgt := 40) hx hb dX12_half_34 (by decide) ?_
      have hf9 : (m_23 &&& 15) = fX12_half x0 x1 v_oldF := by simp only [fX12_half, ← em_23]; (try simp only [if_pos c_27])
      exact W.iret hx hb hr (fun t9 ht9 hW9 => ⟨⟨(m_23 &&& 15), (), rfl, hf9, ⟨by rw [ht9]; exact hP, va_K.moved hW9.alike hK, hD⟩⟩, hS.F ht9⟩) hS.2.2 dX12_half_40
  refine lv_icmp_ge (tgt := 22) hx hb dX12_half_4 (by decide) (fun c_4 => ?_) (fun c_4 => ?_)
  · skip
    refine lv_iconst (v := 0) hx hb dX12_half_22 (by decide) ?_
    exact J_23 0 (by (try simp only [if_pos c_4])) _ _ hP hD hS ls (lv_sub hl [0, 1, 2] rfl)
  · skip
    refine lv_aload_n hx hb dX12_half_7 rfl (lv_at hl 0 rfl) ?_
    refine va_get (D := D) (ci := 12) (v := .ref a_old) (C := RX12) (T := TX12) (N := 26) hx hb hts in_X12 hown hK hP 0 rfl rfl 25 (by decide) q_0 (fun _ h9 => h9) rfl dX12_half_8 ?_
    refine lv_iload_n hx hb dX12_half_11 rfl (lv_at hl 2 rfl) ?_
    refine lv_iconst (v := 1) hx hb dX12_half_12 (by decide) ?_
    refine lv_isub hx hb dX12_half_13 ?_
    refine lv_iload_n hx hb dX12_half_14 rfl (lv_at hl 1 rfl) ?_
    refine lv_iconst (v := 2) hx hb dX12_half_15 (by decide) ?_
    refine lv_idiv hx hb dX12_half_16 (by decide) ?_
    refine lv_isub hx hb dX12_half_17 ?_
    refine va_iald hx hb hK hP 1 0 rfl rfl (hf_in hk hn c_4) dX12_half_18 ?_
    refine lv_goto (tgt := 23) hx hb dX12_half_19 (by decide) ?_
    exact J_23 (v_oldF (((x1 - 1) - (x0 / 2)) : Int32).toNatClampNeg) (by (try simp only [if_neg c_4])) _ _ hP hD hS ls (lv_sub hl [0, 1, 2] rfl)
theorem hdX12_half : yX12_half.cls = RX12 ∧ yX12_half.cls ≠ "java/lang/invoke/MethodHandle" ∧ yX12_half.cls ≠ "java/lang/invoke/VarHandle" ∧ (parseMethodDescriptor yX12_half.desc).map (fun d => d.parameters.length) = some 2 := by decide +kernel
noncomputable def LX12_halves_27 (x2 : Int32) (x4 : Int32) (v_mF : (Nat → Int32)) : Nat → ((Nat → Int32) × Int32) → ((Nat → Int32) × Int32)
  | 0, w_27 => w_27
  | n9 + 1, w_27 =>
    if x2 ≤ w_27.2 then ((w_27.1, w_27.2)) else (let f_49 := upd w_27.1 (w_27.2 : Int32).toNatClampNeg ((v_mF ((x4 + w_27.2) : Int32).toNatClampNeg)); let x_50 := w_27.2 + 1; LX12_halves_27 x2 x4 v_mF n9 (f_49, x_50))
noncomputable def LX12_halves_72 (x0 : Int32) (x1 : Int32) (x2 : Int32) (x3 : Int32) (g_27 : ((Nat → Int32) × Int32)) (x_67 : Int32) : Nat → ((Nat → Int32) × Int32) → ((Nat → Int32) × Int32)
  | 0, w_72 => w_72
  | n9 + 1, w_72 =>
    if x1 ≤ w_72.2 then ((w_72.1, w_72.2)) else (let m_213 : Int32 := (if x0 = 241 then (let m_133 : Int32 := (if w_72.2 = 0 then (let r_96 := fX12_half 0 x2 g_27.1; ((r_96 <<< (4 &&& 31)) ||| (x_67 &&& 15))) else (let r_116 := fX12_half (2 * w_72.2) x2 g_27.1; let r_129 := fX12_half ((2 * w_72.2) - 1) x2 g_27.1; ((r_116 <<< (4 &&& 31)) ||| r_129))); m_133) else (if w_72.2 = 0 then (let r_146 := fX12_half 0 x2 g_27.1; let r_154 := fX12_half 1 x2 g_27.1; let x_158 := ((r_146 <<< (4 &&& 31)) ||| r_154); x_158) else (if x0 = 242 then (let r_176 := fX12_half (4 * w_72.2) x2 g_27.1; let r_189 := fX12_half ((4 * w_72.2) - 2) x2 g_27.1; let x_193 := ((r_176 <<< (4 &&& 31)) ||| r_189); x_193) else (let r_207 := fX12_half (w_72.2 + 1) x2 g_27.1; let x_211 := (240 ||| r_207); x_211)))); let f_228 := upd w_72.1 ((((x3 + x1) - 1) - w_72.2) : Int32).toNatClampNeg (m_213); let x_229 := w_72.2 + 1; LX12_halves_72 x0 x1 x2 x3 g_27 x_67 n9 (f_228, x_229))
noncomputable def fX12_halves (x0 : Int32) (x1 : Int32) (x2 : Int32) (x3 : Int32) (x4 : Int32) (v_key : Int32) (v_wrong : Int32) (v_mF : (Nat → Int32)) (v_mkF : (Nat → Int32)) (v_oldF : (Nat → Int32)) : (Int32 × (Nat → Int32) × (Nat → Int32)) :=
  let u_5 := fX12_look x3 x1 1 v_key v_wrong v_mkF
  let u_13 := fX12_look x4 x2 0 v_key u_5 v_mkF
  if u_13 ≤ 0 then (let g_27 := LX12_halves_27 x2 x4 v_mF (msU x2 0 + 1) (v_oldF, 0); let x_67 := (v_mF (((x3 + x1) - 1) : Int32).toNatClampNeg); let g_72 := LX12_halves_72 x0 x1 x2 x3 g_27 x_67 (msU x1 0 + 1) (v_mF, 0); (u_13, g_72.1, g_27.1)) else ((u_13, v_mF, v_oldF))
abbrev wX12_halves (cI cB : ClassId) (a_mo a_mem a_mks a_mr a_cnt a_wd a_one a_two a_mmade a_mrest a_old : Nat) (v_thrown : Int32) (v_mask : Int32) (v_key : Int32) (v_wait : Int32) (v_problem : Int32) (v_code : Int32) (v_length : Int32) (v_cond : Int32) (v_masks : Int32) (v_addr : Int32) (v_mwanted : Int32) (v_wrong : Int32) (v_after : Int32) (v_calls : Int32) (v_oneB : Int32) (v_twoB : Int32) (v_mF : (Nat → Int32)) (v_mkF : (Nat → Int32)) (v_oldF : (Nat → Int32)) : va_W := [(a_mo, .inr (12, [.int v_thrown, .ref a_mem, .ref a_mks, .ref a_mr, .int v_mask, .int v_key, .int v_wait, .int v_problem, .int v_code, .int v_length, .int v_cond, .int v_masks, .int v_addr, .int v_mwanted, .ref a_cnt, .ref a_wd, .int v_wrong, .int v_after, .int v_calls, .ref a_one, .int v_oneB, .ref a_two, .int v_twoB, .ref a_mmade, .ref a_mrest, .ref a_old])), (a_mem, .inl (cI, 8192, .inl v_mF)), (a_mks, .inl (cI, 4, .inl v_mkF)), (a_old, .inl (cI, 512, .inl v_oldF))]
abbrev rmX12_halves : Room := { frames := 2, cells := 0, slots := 0, locals := 48 }
abbrev qX12_halves (D : va_G) (cI cB : ClassId) (a_mo a_mem a_mks a_mr a_cnt a_wd a_one a_two a_mmade a_mrest a_old : Nat) (v_thrown : Int32) (v_mask : Int32) (v_key : Int32) (v_wait : Int32) (v_problem : Int32) (v_code : Int32) (v_length : Int32) (v_cond : Int32) (v_masks : Int32) (v_addr : Int32) (v_mwanted : Int32) (v_wrong : Int32) (v_after : Int32) (v_calls : Int32) (v_oneB : Int32) (v_twoB : Int32) (v_mF : (Nat → Int32)) (v_mkF : (Nat → Int32)) (v_oldF : (Nat → Int32)) (x0 : Int32) (x1 : Int32) (x2 : Int32) (x3 : Int32) (x4 : Int32) : (Nat → Prop) → Array Value → State → Outcome → State → Prop := fun A9 => va_Qv (fun (u9 : (Int32 × (Nat → Int32) × (Nat → Int32))) => u9 = fX12_halves x0 x1 x2 x3 x4 v_key v_wrong v_mF v_mkF v_oldF) (fun u9 t9 => atW D (TYS cI cB) A9 (wX12_halves cI cB a_mo a_mem a_mks a_mr a_cnt a_wd a_one a_two a_mmade a_mrest a_old v_thrown v_mask v_key v_wait v_problem v_code v_length v_cond v_masks v_addr v_mwanted u9.1 v_after v_calls v_oneB v_twoB u9.2.1 v_mkF u9.2.2) t9) A9
set_option maxHeartbeats 4000000 in
set_option maxRecDepth 100000 in
theorem kX12_halves (l : Launch) (D : va_G) (cI cB : ClassId) (a_mo a_mem a_mks a_mr a_cnt a_wd a_one a_two a_mmade a_mrest a_old : Nat) (sz : Nat) (v_thrown : Int32) (v_mask : Int32) (v_key : Int32) (v_wait : Int32) (v_problem : Int32) (v_code : Int32) (v_length : Int32) (v_cond : Int32) (v_masks : Int32) (v_addr : Int32) (v_mwanted : Int32) (v_wrong : Int32) (v_after : Int32) (v_calls : Int32) (v_oneB : Int32) (v_twoB : Int32) (v_mF : (Nat → Int32)) (v_mkF : (Nat → Int32)) (v_oldF : (Nat → Int32)) (x0 : Int32) (x1 : Int32) (x2 : Int32) (x3 : Int32) (x4 : Int32) (hn : 1 ≤ x1.toInt ∧ x1.toInt ≤ 16) (hm : 1 ≤ x2.toInt ∧ x2.toInt ≤ 16) (ha : in24 x3) (hb9 : in24 x4) (hw : 0 ≤ v_wrong) : MetW l yX12_halves (WK yX12_halves cX12_halves 9 none) rmX12_halves D (TYS cI cB) (wX12_halves cI cB a_mo a_mem a_mks a_mr a_cnt a_wd a_one a_two a_mmade a_mrest a_old v_thrown v_mask v_key v_wait v_problem v_code v_length v_cond v_masks v_addr v_mwanted v_wrong v_after v_calls v_oneB v_twoB v_mF v_mkF v_oldF) sz [.ref a_mo, .int x0, .int x1, .int x2, .int x3, .int x4] (qX12_halves D cI cB a_mo a_mem a_mks a_mr a_cnt a_wd a_one a_two a_mmade a_mrest a_old v_thrown v_mask v_key v_wait v_problem v_code v_length v_cond v_masks v_addr v_mwanted v_wrong v_after v_calls v_oneB v_twoB v_mF v_mkF v_oldF x0 x1 x2 x3 x4) 0 0 := by
  refine met_std (by decide) rfl (Nat.le_of_ble_eq_true rfl) ?_
  intro p e s m below meth c A ls H hx hb hr hml hown hts hlocks hA hP hK hD hS hNW hl
  have hl : lv_has ls 9 [(0, .ref a_mo), (1, .int x0), (2, .int x1), (3, .int x2), (4, .int x3), (5, .int x4)] := hl
  have q_0 := hts _ (List.mem_cons_of_mem _ wd_836)
  have q_1 := hts _ (List.mem_cons_of_mem _ wd_786)
  have q_2 := hts _ (List.mem_cons_of_mem _ wd_777)
  refine lv_aload_n hx hb dX12_halves_0 rfl (lv_at hl 0 rfl) ?_
  refine lv_iload hx hb dX12_halves_1 (lv_at hl 4 rfl) ?_
  refine lv_iload_n hx hb dX12_halves_3 rfl (lv_at hl 2 rfl) ?_
  refine lv_iconst (v := 1) hx hb dX12_halves_4 (by decide) ?_
  have hPc : va_P D vwCl (wX12_look cI cB a_mo a_mem a_mks a_mr a_cnt a_wd a_one a_two a_mmade a_mrest a_old v_thrown v_mask v_key v_wait v_problem v_code v_length v_cond v_masks v_addr v_mwanted v_wrong v_after v_calls v_oneB v_twoB v_mkF) H := hP.sub [0, 2] rfl
  have hDc : va_D A (wX12_look cI cB a_mo a_mem a_mks a_mr a_cnt a_wd a_one a_two a_mmade a_mrest a_old v_thrown v_mask v_key v_wait v_problem v_code v_length v_cond v_masks v_addr v_mwanted v_wrong v_after v_calls v_oneB v_twoB v_mkF) := hD.sub [0, 2] (by decide) rfl
  have hFc := va_free (wc := (wX12_look cI cB a_mo a_mem a_mks a_mr a_cnt a_wd a_one a_two a_mmade a_mrest a_old v_thrown v_mask v_key v_wait v_problem v_code v_length v_cond v_masks v_addr v_mwanted v_wrong v_after v_calls v_oneB v_twoB v_mkF)) hD hS hA [0, 2] rfl
  refine va_callv (va_runV (As := [.int x3, .int x1, .int 1]) (rest := []) ⟨hx, hb, hml, hown, hts⟩ (kX12_look l D cI cB a_mo a_mem a_mks a_mr a_cnt a_wd a_one a_two a_mmade a_mrest a_old H.size v_thrown v_mask v_key v_wait v_problem v_code v_length v_cond v_masks v_addr v_mwanted v_wrong v_after v_calls v_oneB v_twoB v_mkF x3 x1 1) (cwV 3 hts (gd_V wd_857 wd_858 wd_859 wd_807 wd_837) rfl rfl rfl hdX12_look ⟨Nat.le_of_ble_eq_true rfl, Nat.le_of_ble_eq_true rfl⟩) (preV_std (ci := 12) (q0 := 0) hPc hK hDc hNW rfl rfl) rfl rfl hl.1 rfl (lv_room (Nat.le_of_ble_eq_true rfl)) dX12_halves_5 ⟨Nat.zero_le _, Nat.zero_le _⟩) hS (fun q _ h => hFc q h) hFc (fun u_5 t9 H1 locs ht9 hvm9 hw9 hB9 hz9 hk9 hS => ?_)
  have eu_5 : u_5 = fX12_look x3 x1 1 v_key v_wrong v_mkF := hw9
  obtain ⟨hP, hD⟩ := back_std (w1 := (wX12_look cI cB a_mo a_mem a_mks a_mr a_cnt a_wd a_one a_two a_mmade a_mrest a_old v_thrown v_mask v_key v_wait v_problem v_code v_length v_cond v_masks v_addr v_mwanted u_5 v_after v_calls v_oneB v_twoB v_mkF)) (w2 := (wX12_halves cI cB a_mo a_mem a_mks a_mr a_cnt a_wd a_one a_two a_mmade a_mrest a_old v_thrown v_mask v_key v_wait v_problem v_code v_length v_cond v_masks v_addr v_mwanted u_5 v_after v_calls v_oneB v_twoB v_mF v_mkF v_oldF)) (wr := [(a_mem, .inl (cI, 8192, .inl v_mF)), (a_old, .inl (cI, 512, .inl v_oldF))]) hP hD [0, 2] [1, 3] [2, 0, 3, 1] rfl rfl (by decide) (by decide) hk9 hFc hB9 ht9 (by decide) rfl
  clear hB9 hk9 hz9 hvm9 ht9 hFc hPc hDc
  generalize H1 = H at hP hS ⊢
  refine lv_aload_n hx hb dX12_halves_8 rfl (lv_at hl 0 rfl) ?_
  refine lv_iload hx hb dX12_halves_9 (lv_at hl 5 rfl) ?_
  refine lv_iload_n hx hb dX12_halves_11 rfl (lv_at hl 3 rfl) ?_
  refine lv_iconst (v := 0) hx hb dX12_halves_12 (by decide) ?_
  have hPc : va_P D vwCl (wX12_look cI cB a_mo a_mem a_mks a_mr a_cnt a_wd a_one a_two a_mmade a_mrest a_old v_thrown v_mask v_key v_wait v_problem v_code v_length v_cond v_masks v_addr v_mwanted u_5 v_after v_calls v_oneB v_twoB v_mkF) H := hP.sub [0, 2] rfl
  have hDc : va_D A (wX12_look cI cB a_mo a_mem a_mks a_mr a_cnt a_wd a_one a_two a_mmade a_mrest a_old v_thrown v_mask v_key v_wait v_problem v_code v_length v_cond v_masks v_addr v_mwanted u_5 v_after v_calls v_oneB v_twoB v_mkF) := hD.sub [0, 2] (by decide) rfl
  have hFc := va_free (wc := (wX12_look cI cB a_mo a_mem a_mks a_mr a_cnt a_wd a_one a_two a_mmade a_mrest a_old v_thrown v_mask v_key v_wait v_problem v_code v_length v_cond v_masks v_addr v_mwanted u_5 v_after v_calls v_oneB v_twoB v_mkF)) hD hS hA [0, 2] rfl
  refine va_callv (va_runV (As := [.int x4, .int x2, .int 0]) (rest := []) ⟨hx, hb, hml, hown, hts⟩ (kX12_look l D cI cB a_mo a_mem a_mks a_mr a_cnt a_wd a_one a_two a_mmade a_mrest a_old H.size v_thrown v_mask v_key v_wait v_problem v_code v_length v_cond v_masks v_addr v_mwanted u_5 v_after v_calls v_oneB v_twoB v_mkF x4 x2 0) (cwV 3 hts (gd_V wd_857 wd_858 wd_859 wd_807 wd_837) rfl rfl rfl hdX12_look ⟨Nat.le_of_ble_eq_true rfl, Nat.le_of_ble_eq_true rfl⟩) (preV_std (ci := 12) (q0 := 0) hPc hK hDc hNW rfl rfl) rfl rfl hl.1 rfl (lv_room (Nat.le_of_ble_eq_true rfl)) dX12_halves_13 ⟨Nat.zero_le _, Nat.zero_le _⟩) hS (fun q _ h => hFc q h) hFc (fun u_13 t9 H1 locs ht9 hvm9 hw9 hB9 hz9 hk9 hS => ?_)
  have eu_13 : u_13 = fX12_look x4 x2 0 v_key u_5 v_mkF := hw9
  obtain ⟨hP, hD⟩ := back_std (w1 := (wX12_look cI cB a_mo a_mem a_mks a_mr a_cnt a_wd a_one a_two a_mmade a_mrest a_old v_thrown v_mask v_key v_wait v_problem v_code v_length v_cond v_masks v_addr v_mwanted u_13 v_after v_calls v_oneB v_twoB v_mkF)) (w2 := (wX12_halves cI cB a_mo a_mem a_mks a_mr a_cnt a_wd a_one a_two a_mmade a_mrest a_old v_thrown v_mask v_key v_wait v_problem v_code v_length v_cond v_masks v_addr v_mwanted u_13 v_after v_calls v_oneB v_twoB v_mF v_mkF v_oldF)) (wr := [(a_mem, .inl (cI, 8192, .inl v_mF)), (a_old, .inl (cI, 512, .inl v_oldF))]) hP hD [0, 2] [1, 3] [2, 0, 3, 1] rfl rfl (by decide) (by decide) hk9 hFc hB9 ht9 (by decide) rfl
  clear hB9 hk9 hz9 hvm9 ht9 hFc hPc hDc
  generalize H1 = H at hP hS ⊢
  refine lv_aload_n hx hb dX12_halves_16 rfl (lv_at hl 0 rfl) ?_
  refine va_get (D := D) (ci := 12) (v := .int u_13) (C := RX12) (T := TX12) (N := 26) hx hb hts in_X12 hown hK hP 0 rfl rfl 16 (by decide) q_0 (fun _ h9 => h9) rfl dX12_halves_17 ?_
  refine lv_if_le (tgt := 24) hx hb dX12_halves_20 (by decide) (fun c_20 => ?_) (fun c_20 => ?_)
  · skip
    have hAB := lk2 ha hb9 ⟨hn.1, Int.le_trans hn.2 (by decide)⟩ ⟨hm.1, Int.le_trans hm.2 (by decide)⟩ hw eu_5 eu_13 c_20
    have hm2 := hm.2
    refine lv_iconst (v := 0) hx hb dX12_halves_24 (by decide) ?_
    refine lv_istore (lv' := [(6, .int 0), (0, .ref a_mo), (1, .int x0), (2, .int x1), (3, .int x2), (4, .int x3), (5, .int x4)]) hx hb dX12_halves_25 hl (by decide) rfl (fun ls hl => ?_)
    obtain ⟨g_27, eg_27⟩ : ∃ z : ((Nat → Int32) × Int32), z = LX12_halves_27 x2 x4 v_mF (msU x2 0 + 1) (v_oldF, 0) := ⟨_, rfl⟩
    have K_27_0 : ∀ (H : Heap) (locs : List Loc), va_P D vwCl (wX12_halves cI cB a_mo a_mem a_mks a_mr a_cnt a_wd a_one a_two a_mmade a_mrest a_old v_thrown v_mask v_key v_wait v_problem v_code v_length v_cond v_masks v_addr v_mwanted u_13 v_after v_calls v_oneB v_twoB v_mF v_mkF g_27.1) H → va_D A (wX12_halves cI cB a_mo a_mem a_mks a_mr a_cnt a_wd a_one a_two a_mmade a_mrest a_old v_thrown v_mask v_key v_wait v_problem v_code v_length v_cond v_masks v_addr v_mwanted u_13 v_after v_calls v_oneB v_twoB v_mF v_mkF g_27.1) → va_S A s.heap H locs → ∀ (ls : Array Slot), lv_has ls 9 [(0, .ref a_mo), (1, .int x0), (2, .int x1), (3, .int x2), (4, .int x3), (5, .int x4), (6, .int g_27.2)] → W p l e rmX12_halves s m ([.ref a_mo, .int x0, .int x1, .int x2, .int x3, .int x4] : List Value).toArray below meth c H locs 0 0 (MQ below (qX12_halves D cI cB a_mo a_mem a_mks a_mr a_cnt a_wd a_one a_two a_mmade a_mrest a_old v_thrown v_mask v_key v_wait v_problem v_code v_length v_cond v_masks v_addr v_mwanted v_wrong v_after v_calls v_oneB v_twoB v_mF v_mkF v_oldF x0 x1 x2 x3 x4 A) ([.ref a_mo, .int x0, .int x1, .int x2, .int x3, .int x4] : List Value).toArray s 0 0 A) (F0 m 56 ls []) := by
      intro H locs hP hD hS ls hl
      refine lv_aload_n hx hb dX12_halves_56 rfl (lv_at hl 0 rfl) ?_
      refine va_get (D := D) (ci := 12) (v := .ref a_mem) (C := RX12) (T := TX12) (N := 26) hx hb hts in_X12 hown hK hP 0 rfl rfl 1 (by decide) q_2 (fun _ h9 => h9) rfl dX12_halves_57 ?_
      refine lv_iload hx hb dX12_halves_60 (lv_at hl 4 rfl) ?_
      refine lv_iload_n hx hb dX12_halves_62 rfl (lv_at hl 2 rfl) ?_
      refine lv_iadd hx hb dX12_halves_63 ?_
      refine lv_iconst (v := 1) hx hb dX12_halves_64 (by decide) ?_
      refine lv_isub hx hb dX12_halves_65 ?_
      refine va_iald hx hb hK hP 1 0 rfl rfl (lst_in hn.1 hAB.1) dX12_halves_66 ?_
      refine lv_topi (fun x_67 ex_67 => ?_)
      refine lv_istore (lv' := [(6, .int x_67), (0, .ref a_mo), (1, .int x0), (2, .int x1), (3, .int x2), (4, .int x3), (5, .int x4)]) hx hb dX12_halves_67 hl (by decide) rfl (fun ls hl => ?_)
      refine lv_iconst (v := 0) hx hb dX12_halves_69 (by decide) ?_
      refine lv_istore (lv' := [(7, .int 0), (6, .int x_67), (0, .ref a_mo), (1, .int x0), (2, .int x1), (3, .int x2), (4, .int x3), (5, .int x4)]) hx hb dX12_halves_70 hl (by decide) rfl (fun ls hl => ?_)
      obtain ⟨g_72, eg_72⟩ : ∃ z : ((Nat → Int32) × Int32), z = LX12_halves_72 x0 x1 x2 x3 g_27 x_67 (msU x1 0 + 1) (v_mF, 0) := ⟨_, rfl⟩
      have K_72_0 : ∀ (H : Heap) (locs : List Loc), va_P D vwCl (wX12_halves cI cB a_mo a_mem a_mks a_mr a_cnt a_wd a_one a_two a_mmade a_mrest a_old v_thrown v_mask v_key v_wait v_problem v_code v_length v_cond v_masks v_addr v_mwanted u_13 v_after v_calls v_oneB v_twoB g_72.1 v_mkF g_27.1) H → va_D A (wX12_halves cI cB a_mo a_mem a_mks a_mr a_cnt a_wd a_one a_two a_mmade a_mrest a_old v_thrown v_mask v_key v_wait v_problem v_code v_length v_cond v_masks v_addr v_mwanted u_13 v_after v_calls v_oneB v_twoB g_72.1 v_mkF g_27.1) → va_S A s.heap H locs → ∀ (ls : Array Slot), lv_has ls 9 [(0, .ref a_mo), (1, .int x0), (2, .int x1), (3, .int x2), (4, .int x3), (5, .int x4), (6, .int x_67), (7, .int g_72.2)] → W p l e rmX12_halves s m ([.ref a_mo, .int x0, .int x1, .int x2, .int x3, .int x4] : List Value).toArray below meth c H locs 0 0 (MQ below (qX12_halves D cI cB a_mo a_mem a_mks a_mr a_cnt a_wd a_one a_two a_mmade a_mrest a_old v_thrown v_mask v_key v_wait v_problem v_code v_length v_cond v_masks v_addr v_mwanted v_wrong v_after v_calls v_oneB v_twoB v_mF v_mkF v_oldF x0 x1 x2 x3 x4 A) ([.ref a_mo, .int x0, .int x1, .int x2, .int x3, .int x4] : List Value).toArray s 0 0 A) (F0 m 235 ls []) := by
        intro H locs hP hD hS ls hl
        have hf9 : (u_13, g_72.1, g_27.1) = fX12_halves x0 x1 x2 x3 x4 v_key v_wrong v_mF v_mkF v_oldF := by subst ex_67; simp only [fX12_halves, ← eu_5, ← eu_13, ← eg_27, ← eg_72]; (try simp only [if_pos c_20])
        exact W.vret hx hb hr (fun t9 ht9 hW9 => ⟨⟨(u_13, g_72.1, g_27.1), rfl, hf9, ⟨by rw [ht9]; exact hP, va_K.moved hW9.alike hK, hD⟩⟩, hS.F ht9⟩) hS.2.2 dX12_halves_235
      have lp_72 : ∀ (n9 : Nat) (w_72 : ((Nat → Int32) × Int32)), msU x1 w_72.2 < n9 → 0 ≤ w_72.2 → LX12_halves_72 x0 x1 x2 x3 g_27 x_67 n9 w_72 = g_72 → ∀ (H : Heap) (locs : List Loc), va_P D vwCl (wX12_halves cI cB a_mo a_mem a_mks a_mr a_cnt a_wd a_one a_two a_mmade a_mrest a_old v_thrown v_mask v_key v_wait v_problem v_code v_length v_cond v_masks v_addr v_mwanted u_13 v_after v_calls v_oneB v_twoB w_72.1 v_mkF g_27.1) H → va_D A (wX12_halves cI cB a_mo a_mem a_mks a_mr a_cnt a_wd a_one a_two a_mmade a_mrest a_old v_thrown v_mask v_key v_wait v_problem v_code v_length v_cond v_masks v_addr v_mwanted u_13 v_after v_calls v_oneB v_twoB w_72.1 v_mkF g_27.1) → va_S A s.heap H locs → ∀ (ls : Array Slot), lv_has ls 9 [(0, .ref a_mo), (1, .int x0), (2, .int x1), (3, .int x2), (4, .int x3), (5, .int x4), (6, .int x_67), (7, .int w_72.2)] → W p l e rmX12_halves s m ([.ref a_mo, .int x0, .int x1, .int x2, .int x3, .int x4] : List Value).toArray below meth c H locs 0 0 (MQ below (qX12_halves D cI cB a_mo a_mem a_mks a_mr a_cnt a_wd a_one a_two a_mmade a_mrest a_old v_thrown v_mask v_key v_wait v_problem v_code v_length v_cond v_masks v_addr v_mwanted v_wrong v_after v_calls v_oneB v_twoB v_mF v_mkF v_oldF x0 x1 x2 x3 x4 A) ([.ref a_mo, .int x0, .int x1, .int x2, .int x3, .int x4] : List Value).toArray s 0 0 A) (F0 m 72 ls []) := by
        intro n9
        induction n9 with
        | zero => intro w_72 hm9; exact absurd hm9 (Nat.not_lt_zero _)
        | succ n9 ih =>
          intro w_72 hm9 hI9 hL9 H locs hP hD hS ls hl
          have hI_72 := hI9
          refine lv_iload hx hb dX12_halves_72 (lv_at hl 7 rfl) ?_
          refine lv_iload_n hx hb dX12_halves_74 rfl (lv_at hl 2 rfl) ?_
          refine lv_icmp_ge (tgt := 235) hx hb dX12_halves_75 (by decide) (fun c_75 => ?_) (fun c_75 => ?_)
          · skip
            have hg9 : (w_72.1, w_72.2) = g_72 := by rw [← hL9]; simp only [LX12_halves_72]; (try simp only [if_pos c_75])
            subst hg9
            exact K_72_0 _ _ hP hD hS ls (lv_sub hl [0, 1, 2, 3, 4, 5, 6, 7] rfl)
          · skip
            refine lv_iconst (v := 0) hx hb dX12_halves_78 (by decide) ?_
            refine lv_istore (lv' := [(8, .int 0), (0, .ref a_mo), (1, .int x0), (2, .int x1), (3, .int x2), (4, .int x3), (5, .int x4), (6, .int x_67), (7, .int w_72.2)]) hx hb dX12_halves_79 hl (by decide) rfl (fun ls hl => ?_)
            refine lv_iload_n hx hb dX12_halves_81 rfl (lv_at hl 2 rfl) ?_
            refine lv_sipush (v := 241) hx hb dX12_halves_82 (by decide) ?_
            have J_213 : ∀ (m_213 : Int32), m_213 = (if x0 = 241 then (let m_133 : Int32 := (if w_72.2 = 0 then (let r_96 := fX12_half 0 x2 g_27.1; ((r_96 <<< (4 &&& 31)) ||| (x_67 &&& 15))) else (let r_116 := fX12_half (2 * w_72.2) x2 g_27.1; let r_129 := fX12_half ((2 * w_72.2) - 1) x2 g_27.1; ((r_116 <<< (4 &&& 31)) ||| r_129))); m_133) else (if w_72.2 = 0 then (let r_146 := fX12_half 0 x2 g_27.1; let r_154 := fX12_half 1 x2 g_27.1; let x_158 := ((r_146 <<< (4 &&& 31)) ||| r_154); x_158) else (if x0 = 242 then (let r_176 := fX12_half (4 * w_72.2) x2 g_27.1; let r_189 := fX12_half ((4 * w_72.2) - 2) x2 g_27.1; let x_193 := ((r_176 <<< (4 &&& 31)) ||| r_189); x_193) else (let r_207 := fX12_half (w_72.2 + 1) x2 g_27.1; let x_211 := (240 ||| r_207); x_211)))) → ∀ (H : Heap) (locs : List Loc), va_P D vwCl (wX12_halves cI cB a_mo a_mem a_mks a_mr a_cnt a_wd a_one a_two a_mmade a_mrest a_old v_thrown v_mask v_key v_wait v_problem v_code v_length v_cond v_masks v_addr v_mwanted u_13 v_after v_calls v_oneB v_twoB w_72.1 v_mkF g_27.1) H → va_D A (wX12_halves cI cB a_mo a_mem a_mks a_mr a_cnt a_wd a_one a_two a_mmade a_mrest a_old v_thrown v_mask v_key v_wait v_problem v_code v_length v_cond v_masks v_addr v_mwanted u_13 v_after v_calls v_oneB v_twoB w_72.1 v_mkF g_27.1) → va_S A s.heap H locs → ∀ (ls : Array Slot), lv_has ls 9 [(0, .ref a_mo), (1, .int x0), (2, .int x1), (3, .int x2), (4, .int x3), (5, .int x4), (6, .int x_67), (7, .int w_72.2), (8, .int m_213)] → W p l e rmX12_halves s m ([.ref a_mo, .int x0, .int x1, .int x2, .int x3, .int x4] : List Value).toArray below meth c H locs 0 0 (MQ below (qX12_halves D cI cB a_mo a_mem a_mks a_mr a_cnt a_wd a_one a_two a_mmade a_mrest a_old v_thrown v_mask v_key v_wait v_problem v_code v_length v_cond v_masks v_addr v_mwanted v_wrong v_after v_calls v_oneB v_twoB v_mF v_mkF v_oldF x0 x1 x2 x3 x4 A) ([.ref a_mo, .int x0, .int x1, .int x2, .int x3, .int x4] : List Value).toArray s 0 0 A) (F0 m 213 ls []) := by
              intro m_213 em_213 H locs hP hD hS ls hl
              try dsimp only at em_213
              refine lv_aload_n hx hb dX12_halves_213 rfl (lv_at hl 0 rfl) ?_
              refine va_get (D := D) (ci := 12) (v := .ref a_mem) (C := RX12) (T := TX12) (N := 26) hx hb hts in_X12 hown hK hP 0 rfl rfl 1 (by decide) q_2 (fun _ h9 => h9) rfl dX12_halves_214 ?_
              refine lv_iload hx hb dX12_halves_217 (lv_at hl 4 rfl) ?_
              refine lv_iload_n hx hb dX12_halves_219 rfl (lv_at hl 2 rfl) ?_
              refine lv_iadd hx hb dX12_halves_220 ?_
              refine lv_iconst (v := 1) hx hb dX12_halves_221 (by decide) ?_
              refine lv_isub hx hb dX12_halves_222 ?_
              refine lv_iload hx hb dX12_halves_223 (lv_at hl 7 rfl) ?_
              refine lv_isub hx hb dX12_halves_225 ?_
              refine lv_iload hx hb dX12_halves_226 (lv_at hl 8 rfl) ?_
              refine va_iast hx hb hK hP hD hS 1 0 rfl rfl (bk_in hAB.1 hI9 c_75) dX12_halves_228 (fun H locs hP hD hS => ?_)
              obtain ⟨f_228, ef_228⟩ : ∃ z : Nat → Int32, z = upd w_72.1 ((((x3 + x1) - 1) - w_72.2) : Int32).toNatClampNeg (m_213) := ⟨_, rfl⟩
              have hP : va_P D vwCl (wX12_halves cI cB a_mo a_mem a_mks a_mr a_cnt a_wd a_one a_two a_mmade a_mrest a_old v_thrown v_mask v_key v_wait v_problem v_code v_length v_cond v_masks v_addr v_mwanted u_13 v_after v_calls v_oneB v_twoB (upd w_72.1 ((((x3 + x1) - 1) - w_72.2) : Int32).toNatClampNeg (m_213)) v_mkF g_27.1) H := hP
              have hD : va_D A (wX12_halves cI cB a_mo a_mem a_mks a_mr a_cnt a_wd a_one a_two a_mmade a_mrest a_old v_thrown v_mask v_key v_wait v_problem v_code v_length v_cond v_masks v_addr v_mwanted u_13 v_after v_calls v_oneB v_twoB (upd w_72.1 ((((x3 + x1) - 1) - w_72.2) : Int32).toNatClampNeg (m_213)) v_mkF g_27.1) := hD
              rw [← ef_228] at hP hD
              obtain ⟨x_229, ex_229⟩ : ∃ z : Int32, z = w_72.2 + 1 := ⟨_, rfl⟩
              refine lv_iinc (v := x_229) (lv' := [(7, .int x_229), (0, .ref a_mo), (1, .int x0), (2, .int x1), (3, .int x2), (4, .int x3), (5, .int x4), (6, .int x_67), (8, .int m_213)]) hx hb dX12_halves_229 hl (k := 7) rfl (by rw [ex_229]; rfl) (by decide) rfl (fun ls hl => ?_)
              refine lv_goto (tgt := 72) hx hb dX12_halves_232 (by decide) ?_
              exact ih (f_228, x_229) (by subst ex_229; subst ef_228; subst em_213;  exact Nat.lt_of_lt_of_le (ms_up c_75) (Nat.le_of_lt_succ hm9)) (by subst ex_229; subst ef_228; subst em_213;  exact nn_up hI9 c_75) (by rw [← hL9]; subst ex_229; subst ef_228; simp only [LX12_halves_72, ← em_213]; (try simp only [if_neg c_75])) _ _ hP hD hS ls (lv_sub hl [1, 2, 3, 4, 5, 6, 7, 0] rfl)
            refine lv_icmp_ne (tgt := 138) hx hb dX12_halves_85 (by decide) (fun c_85 => ?_) (fun c_85 => ?_)
            · skip
              refine lv_iload hx hb dX12_halves_138 (lv_at hl 8 rfl) ?_
              refine lv_if_ne (tgt := 163) hx hb dX12_halves_140 (by decide) (fun c_140 => ?_) (fun c_140 => ?_)
              · skip
                refine lv_iload_n hx hb dX12_halves_163 rfl (lv_at hl 2 rfl) ?_
                refine lv_sipush (v := 242) hx hb dX12_halves_164 (by decide) ?_
                refine lv_icmp_ne (tgt := 198) hx hb dX12_halves_167 (by decide) (fun c_167 => ?_) (fun c_167 => ?_)
                · skip
                  refine lv_sipush (v := 240) hx hb dX12_halves_198 (by decide) ?_
                  refine lv_aload_n hx hb dX12_halves_201 rfl (lv_at hl 1 rfl) ?_
                  refine lv_iload hx hb dX12_halves_202 (lv_at hl 8 rfl) ?_
                  refine lv_iconst (v := 1) hx hb dX12_halves_204 (by decide) ?_
                  refine lv_iadd hx hb dX12_halves_205 ?_
                  refine lv_iload_n hx hb dX12_halves_206 rfl (lv_at hl 4 rfl) ?_
                  have hPc : va_P D vwCl (wX12_half cI cB a_mo a_mem a_mks a_mr a_cnt a_wd a_one a_two a_mmade a_mrest a_old v_thrown v_mask v_key v_wait v_problem v_code v_length v_cond v_masks v_addr v_mwanted u_13 v_after v_calls v_oneB v_twoB g_27.1) H := hP.sub [0, 3] rfl
                  have hDc : va_D A (wX12_half cI cB a_mo a_mem a_mks a_mr a_cnt a_wd a_one a_two a_mmade a_mrest a_old v_thrown v_mask v_key v_wait v_problem v_code v_length v_cond v_masks v_addr v_mwanted u_13 v_after v_calls v_oneB v_twoB g_27.1) := hD.sub [0, 3] (by decide) rfl
                  have hFc := va_free (wc := (wX12_half cI cB a_mo a_mem a_mks a_mr a_cnt a_wd a_one a_two a_mmade a_mrest a_old v_thrown v_mask v_key v_wait v_problem v_code v_length v_cond v_masks v_addr v_mwanted u_13 v_after v_calls v_oneB v_twoB g_27.1)) hD hS hA [0, 3] rfl
                  refine va_calli (va_runV (As := [.int (w_72.2 + 1), .int x2]) (rest := [.int 240]) ⟨hx, hb, hml, hown, hts⟩ (kX12_half l D cI cB a_mo a_mem a_mks a_mr a_cnt a_wd a_one a_two a_mmade a_mrest a_old H.size v_thrown v_mask v_key v_wait v_problem v_code v_length v_cond v_masks v_addr v_mwanted u_13 v_after v_calls v_oneB v_twoB g_27.1 (w_72.2 + 1) x2 (hv_p hn.2 hI9 c_75) (by first | with_reducible assumption | decide | (unfold vp_in; decide))) (cwV 2 hts (gd_V wd_980 wd_981 wd_982 wd_807 wd_978) rfl rfl rfl hdX12_half ⟨Nat.le_of_ble_eq_true rfl, Nat.le_of_ble_eq_true rfl⟩) (preV_std (ci := 12) (q0 := 0) hPc hK hDc hNW rfl rfl) rfl rfl hl.1 rfl (lv_room (Nat.le_of_ble_eq_true rfl)) dX12_halves_207 ⟨Nat.zero_le _, Nat.zero_le _⟩) hS (fun q _ h => hFc q h) hFc (fun r_207 u_207 t9 H1 locs ht9 hvm9 hw9 hB9 hz9 hk9 hS => ?_)
                  have er_207 : r_207 = fX12_half (w_72.2 + 1) x2 g_27.1 := hw9
                  obtain ⟨hP, hD⟩ := back_std (w1 := (wX12_half cI cB a_mo a_mem a_mks a_mr a_cnt a_wd a_one a_two a_mmade a_mrest a_old v_thrown v_mask v_key v_wait v_problem v_code v_length v_cond v_masks v_addr v_mwanted u_13 v_after v_calls v_oneB v_twoB g_27.1)) (w2 := (wX12_halves cI cB a_mo a_mem a_mks a_mr a_cnt a_wd a_one a_two a_mmade a_mrest a_old v_thrown v_mask v_key v_wait v_problem v_code v_length v_cond v_masks v_addr v_mwanted u_13 v_after v_calls v_oneB v_twoB w_72.1 v_mkF g_27.1)) (wr := [(a_mem, .inl (cI, 8192, .inl w_72.1)), (a_mks, .inl (cI, 4, .inl v_mkF))]) hP hD [0, 3] [1, 2] [2, 0, 1, 3] rfl rfl (by decide) (by decide) hk9 hFc hB9 ht9 (by decide) rfl
                  clear hB9 hk9 hz9 hvm9 ht9 hFc hPc hDc
                  generalize H1 = H at hP hS ⊢
                  refine lv_ior hx hb dX12_halves_210 ?_
                  refine lv_topi (fun x_211 ex_211 => ?_)
                  refine lv_istore (lv' := [(8, .int x_211), (0, .ref a_mo), (1, .int x0), (2, .int x1), (3, .int x2), (4, .int x3), (5, .int x4), (6, .int x_67), (7, .int w_72.2)]) hx hb dX12_halves_211 hl (by decide) rfl (fun ls hl => ?_)
                  exact J_213 x_211 (by subst ex_211; (try simp only [← er_207]); (try simp only [if_neg c_85, if_neg c_140, if_neg c_167])) _ _ hP hD hS ls (lv_sub hl [1, 2, 3, 4, 5, 6, 7, 8, 0] rfl)
                · skip
                  refine lv_aload_n hx hb dX12_halves_170 rfl (lv_at hl 1 rfl) ?_
                  refine lv_iconst (v := 4) hx hb dX12_halves_171 (by decide) ?_
                  refine lv_iload hx hb dX12_halves_172 (lv_at hl 8 rfl) ?_
                  refine lv_imul hx hb dX12_halves_174 ?_
                  refine lv_iload_n hx hb dX12_halves_175 rfl (lv_at hl 4 rfl) ?_
                  have hPc : va_P D vwCl (wX12_half cI cB a_mo a_mem a_mks a_mr a_cnt a_wd a_one a_two a_mmade a_mrest a_old v_thrown v_mask v_key v_wait v_problem v_code v_length v_cond v_masks v_addr v_mwanted u_13 v_after v_calls v_oneB v_twoB g_27.1) H := hP.sub [0, 3] rfl
                  have hDc : va_D A (wX12_half cI cB a_mo a_mem a_mks a_mr a_cnt a_wd a_one a_two a_mmade a_mrest a_old v_thrown v_mask v_key v_wait v_problem v_code v_length v_cond v_masks v_addr v_mwanted u_13 v_after v_calls v_oneB v_twoB g_27.1) := hD.sub [0, 3] (by decide) rfl
                  have hFc := va_free (wc := (wX12_half cI cB a_mo a_mem a_mks a_mr a_cnt a_wd a_one a_two a_mmade a_mrest a_old v_thrown v_mask v_key v_wait v_problem v_code v_length v_cond v_masks v_addr v_mwanted u_13 v_after v_calls v_oneB v_twoB g_27.1)) hD hS hA [0, 3] rfl
                  refine va_calli (va_runV (As := [.int (4 * w_72.2), .int x2]) (rest := []) ⟨hx, hb, hml, hown, hts⟩ (kX12_half l D cI cB a_mo a_mem a_mks a_mr a_cnt a_wd a_one a_two a_mmade a_mrest a_old H.size v_thrown v_mask v_key v_wait v_problem v_code v_length v_cond v_masks v_addr v_mwanted u_13 v_after v_calls v_oneB v_twoB g_27.1 (4 * w_72.2) x2 (hv_4 hn.2 hI9 c_75) (by first | with_reducible assumption | decide | (unfold vp_in; decide))) (cwV 2 hts (gd_V wd_980 wd_981 wd_982 wd_807 wd_978) rfl rfl rfl hdX12_half ⟨Nat.le_of_ble_eq_true rfl, Nat.le_of_ble_eq_true rfl⟩) (preV_std (ci := 12) (q0 := 0) hPc hK hDc hNW rfl rfl) rfl rfl hl.1 rfl (lv_room (Nat.le_of_ble_eq_true rfl)) dX12_halves_176 ⟨Nat.zero_le _, Nat.zero_le _⟩) hS (fun q _ h => hFc q h) hFc (fun r_176 u_176 t9 H1 locs ht9 hvm9 hw9 hB9 hz9 hk9 hS => ?_)
                  have er_176 : r_176 = fX12_half (4 * w_72.2) x2 g_27.1 := hw9
                  obtain ⟨hP, hD⟩ := back_std (w1 := (wX12_half cI cB a_mo a_mem a_mks a_mr a_cnt a_wd a_one a_two a_mmade a_mrest a_old v_thrown v_mask v_key v_wait v_problem v_code v_length v_cond v_masks v_addr v_mwanted u_13 v_after v_calls v_oneB v_twoB g_27.1)) (w2 := (wX12_halves cI cB a_mo a_mem a_mks a_mr a_cnt a_wd a_one a_two a_mmade a_mrest a_old v_thrown v_mask v_key v_wait v_problem v_code v_length v_cond v_masks v_addr v_mwanted u_13 v_after v_calls v_oneB v_twoB w_72.1 v_mkF g_27.1)) (wr := [(a_mem, .inl (cI, 8192, .inl w_72.1)), (a_mks, .inl (cI, 4, .inl v_mkF))]) hP hD [0, 3] [1, 2] [2, 0, 1, 3] rfl rfl (by decide) (by decide) hk9 hFc hB9 ht9 (by decide) rfl
                  clear hB9 hk9 hz9 hvm9 ht9 hFc hPc hDc
                  generalize H1 = H at hP hS ⊢
                  refine lv_iconst (v := 4) hx hb dX12_halves_179 (by decide) ?_
                  refine lv_ishl hx hb dX12_halves_180 ?_
                  refine lv_aload_n hx hb dX12_halves_181 rfl (lv_at hl 1 rfl) ?_
                  refine lv_iconst (v := 4) hx hb dX12_halves_182 (by decide) ?_
                  refine lv_iload hx hb dX12_halves_183 (lv_at hl 8 rfl) ?_
                  refine lv_imul hx hb dX12_halves_185 ?_
                  refine lv_iconst (v := 2) hx hb dX12_halves_186 (by decide) ?_
                  refine lv_isub hx hb dX12_halves_187 ?_
                  refine lv_iload_n hx hb dX12_halves_188 rfl (lv_at hl 4 rfl) ?_
                  have hPc : va_P D vwCl (wX12_half cI cB a_mo a_mem a_mks a_mr a_cnt a_wd a_one a_two a_mmade a_mrest a_old v_thrown v_mask v_key v_wait v_problem v_code v_length v_cond v_masks v_addr v_mwanted u_13 v_after v_calls v_oneB v_twoB g_27.1) H := hP.sub [0, 3] rfl
                  have hDc : va_D A (wX12_half cI cB a_mo a_mem a_mks a_mr a_cnt a_wd a_one a_two a_mmade a_mrest a_old v_thrown v_mask v_key v_wait v_problem v_code v_length v_cond v_masks v_addr v_mwanted u_13 v_after v_calls v_oneB v_twoB g_27.1) := hD.sub [0, 3] (by decide) rfl
                  have hFc := va_free (wc := (wX12_half cI cB a_mo a_mem a_mks a_mr a_cnt a_wd a_one a_two a_mmade a_mrest a_old v_thrown v_mask v_key v_wait v_problem v_code v_length v_cond v_masks v_addr v_mwanted u_13 v_after v_calls v_oneB v_twoB g_27.1)) hD hS hA [0, 3] rfl
                  refine va_calli (va_runV (As := [.int (((4 * w_72.2) - 2)), .int x2]) (rest := [.int ((r_176 <<< (4 &&& 31)))]) ⟨hx, hb, hml, hown, hts⟩ (kX12_half l D cI cB a_mo a_mem a_mks a_mr a_cnt a_wd a_one a_two a_mmade a_mrest a_old H.size v_thrown v_mask v_key v_wait v_problem v_code v_length v_cond v_masks v_addr v_mwanted u_13 v_after v_calls v_oneB v_twoB g_27.1 ((4 * w_72.2) - 2) x2 (hv_4m hn.2 hI9 c_75 c_140) (by first | with_reducible assumption | decide | (unfold vp_in; decide))) (cwV 2 hts (gd_V wd_980 wd_981 wd_982 wd_807 wd_978) rfl rfl rfl hdX12_half ⟨Nat.le_of_ble_eq_true rfl, Nat.le_of_ble_eq_true rfl⟩) (preV_std (ci := 12) (q0 := 0) hPc hK hDc hNW rfl rfl) rfl rfl hl.1 rfl (lv_room (Nat.le_of_ble_eq_true rfl)) dX12_halves_189 ⟨Nat.zero_le _, Nat.zero_le _⟩) hS (fun q _ h => hFc q h) hFc (fun r_189 u_189 t9 H1 locs ht9 hvm9 hw9 hB9 hz9 hk9 hS => ?_)
                  have er_189 : r_189 = fX12_half ((4 * w_72.2) - 2) x2 g_27.1 := hw9
                  obtain ⟨hP, hD⟩ := back_std (w1 := (wX12_half cI cB a_mo a_mem a_mks a_mr a_cnt a_wd a_one a_two a_mmade a_mrest a_old v_thrown v_mask v_key v_wait v_problem v_code v_length v_cond v_masks v_addr v_mwanted u_13 v_after v_calls v_oneB v_twoB g_27.1)) (w2 := (wX12_halves cI cB a_mo a_mem a_mks a_mr a_cnt a_wd a_one a_two a_mmade a_mrest a_old v_thrown v_mask v_key v_wait v_problem v_code v_length v_cond v_masks v_addr v_mwanted u_13 v_after v_calls v_oneB v_twoB w_72.1 v_mkF g_27.1)) (wr := [(a_mem, .inl (cI, 8192, .inl w_72.1)), (a_mks, .inl (cI, 4, .inl v_mkF))]) hP hD [0, 3] [1, 2] [2, 0, 1, 3] rfl rfl (by decide) (by decide) hk9 hFc hB9 ht9 (by decide) rfl
                  clear hB9 hk9 hz9 hvm9 ht9 hFc hPc hDc
                  generalize H1 = H at hP hS ⊢
                  refine lv_ior hx hb dX12_halves_192 ?_
                  refine lv_topi (fun x_193 ex_193 => ?_)
                  refine lv_istore (lv' := [(8, .int x_193), (0, .ref a_mo), (1, .int x0), (2, .int x1), (3, .int x2), (4, .int x3), (5, .int x4), (6, .int x_67), (7, .int w_72.2)]) hx hb dX12_halves_193 hl (by decide) rfl (fun ls hl => ?_)
                  refine lv_goto (tgt := 213) hx hb dX12_halves_195 (by decide) ?_
                  exact J_213 x_193 (by subst ex_193; (try simp only [← er_176, ← er_189]); (try simp only [if_neg c_85, if_neg c_140, if_pos c_167])) _ _ hP hD hS ls (lv_sub hl [1, 2, 3, 4, 5, 6, 7, 8, 0] rfl)
              · skip
                refine lv_aload_n hx hb dX12_halves_143 rfl (lv_at hl 1 rfl) ?_
                refine lv_iconst (v := 0) hx hb dX12_halves_144 (by decide) ?_
                refine lv_iload_n hx hb dX12_halves_145 rfl (lv_at hl 4 rfl) ?_
                have hPc : va_P D vwCl (wX12_half cI cB a_mo a_mem a_mks a_mr a_cnt a_wd a_one a_two a_mmade a_mrest a_old v_thrown v_mask v_key v_wait v_problem v_code v_length v_cond v_masks v_addr v_mwanted u_13 v_after v_calls v_oneB v_twoB g_27.1) H := hP.sub [0, 3] rfl
                have hDc : va_D A (wX12_half cI cB a_mo a_mem a_mks a_mr a_cnt a_wd a_one a_two a_mmade a_mrest a_old v_thrown v_mask v_key v_wait v_problem v_code v_length v_cond v_masks v_addr v_mwanted u_13 v_after v_calls v_oneB v_twoB g_27.1) := hD.sub [0, 3] (by decide) rfl
                have hFc := va_free (wc := (wX12_half cI cB a_mo a_mem a_mks a_mr a_cnt a_wd a_one a_two a_mmade a_mrest a_old v_thrown v_mask v_key v_wait v_problem v_code v_length v_cond v_masks v_addr v_mwanted u_13 v_after v_calls v_oneB v_twoB g_27.1)) hD hS hA [0, 3] rfl
                refine va_calli (va_runV (As := [.int 0, .int x2]) (rest := []) ⟨hx, hb, hml, hown, hts⟩ (kX12_half l D cI cB a_mo a_mem a_mks a_mr a_cnt a_wd a_one a_two a_mmade a_mrest a_old H.size v_thrown v_mask v_key v_wait v_problem v_code v_length v_cond v_masks v_addr v_mwanted u_13 v_after v_calls v_oneB v_twoB g_27.1 0 x2 (by first | with_reducible assumption | decide | (unfold vp_in; decide)) (by first | with_reducible assumption | decide | (unfold vp_in; decide))) (cwV 2 hts (gd_V wd_980 wd_981 wd_982 wd_807 wd_978) rfl rfl rfl hdX12_half ⟨Nat.le_of_ble_eq_true rfl, Nat.le_of_ble_eq_true rfl⟩) (preV_std (ci := 12) (q0 := 0) hPc hK hDc hNW rfl rfl) rfl rfl hl.1 rfl (lv_room (Nat.le_of_ble_eq_true rfl)) dX12_halves_146 ⟨Nat.zero_le _, Nat.zero_le _⟩) hS (fun q _ h => hFc q h) hFc (fun r_146 u_146 t9 H1 locs ht9 hvm9 hw9 hB9 hz9 hk9 hS => ?_)
                have er_146 : r_146 = fX12_half 0 x2 g_27.1 := hw9
                obtain ⟨hP, hD⟩ := back_std (w1 := (wX12_half cI cB a_mo a_mem a_mks a_mr a_cnt a_wd a_one a_two a_mmade a_mrest a_old v_thrown v_mask v_key v_wait v_problem v_code v_length v_cond v_masks v_addr v_mwanted u_13 v_after v_calls v_oneB v_twoB g_27.1)) (w2 := (wX12_halves cI cB a_mo a_mem a_mks a_mr a_cnt a_wd a_one a_two a_mmade a_mrest a_old v_thrown v_mask v_key v_wait v_problem v_code v_length v_cond v_masks v_addr v_mwanted u_13 v_after v_calls v_oneB v_twoB w_72.1 v_mkF g_27.1)) (wr := [(a_mem, .inl (cI, 8192, .inl w_72.1)), (a_mks, .inl (cI, 4, .inl v_mkF))]) hP hD [0, 3] [1, 2] [2, 0, 1, 3] rfl rfl (by decide) (by decide) hk9 hFc hB9 ht9 (by decide) rfl
                clear hB9 hk9 hz9 hvm9 ht9 hFc hPc hDc
                generalize H1 = H at hP hS ⊢
                refine lv_iconst (v := 4) hx hb dX12_halves_149 (by decide) ?_
                refine lv_ishl hx hb dX12_halves_150 ?_
                refine lv_aload_n hx hb dX12_halves_151 rfl (lv_at hl 1 rfl) ?_
                refine lv_iconst (v := 1) hx hb dX12_halves_152 (by decide) ?_
                refine lv_iload_n hx hb dX12_halves_153 rfl (lv_at hl 4 rfl) ?_
                have hPc : va_P D vwCl (wX12_half cI cB a_mo a_mem a_mks a_mr a_cnt a_wd a_one a_two a_mmade a_mrest a_old v_thrown v_mask v_key v_wait v_problem v_code v_length v_cond v_masks v_addr v_mwanted u_13 v_after v_calls v_oneB v_twoB g_27.1) H := hP.sub [0, 3] rfl
                have hDc : va_D A (wX12_half cI cB a_mo a_mem a_mks a_mr a_cnt a_wd a_one a_two a_mmade a_mrest a_old v_thrown v_mask v_key v_wait v_problem v_code v_length v_cond v_masks v_addr v_mwanted u_13 v_after v_calls v_oneB v_twoB g_27.1) := hD.sub [0, 3] (by decide) rfl
                have hFc := va_free (wc := (wX12_half cI cB a_mo a_mem a_mks a_mr a_cnt a_wd a_one a_two a_mmade a_mrest a_old v_thrown v_mask v_key v_wait v_problem v_code v_length v_cond v_masks v_addr v_mwanted u_13 v_after v_calls v_oneB v_twoB g_27.1)) hD hS hA [0, 3] rfl
                refine va_calli (va_runV (As := [.int 1, .int x2]) (rest := [.int ((r_146 <<< (4 &&& 31)))]) ⟨hx, hb, hml, hown, hts⟩ (kX12_half l D cI cB a_mo a_mem a_mks a_mr a_cnt a_wd a_one a_two a_mmade a_mrest a_old H.size v_thrown v_mask v_key v_wait v_problem v_code v_length v_cond v_masks v_addr v_mwanted u_13 v_after v_calls v_oneB v_twoB g_27.1 1 x2 (by first | with_reducible assumption | decide | (unfold vp_in; decide)) (by first | with_reducible assumption | decide | (unfold vp_in; decide))) (cwV 2 hts (gd_V wd_980 wd_981 wd_982 wd_807 wd_978) rfl rfl rfl hdX12_half ⟨Nat.le_of_ble_eq_true rfl, Nat.le_of_ble_eq_true rfl⟩) (preV_std (ci := 12) (q0 := 0) hPc hK hDc hNW rfl rfl) rfl rfl hl.1 rfl (lv_room (Nat.le_of_ble_eq_true rfl)) dX12_halves_154 ⟨Nat.zero_le _, Nat.zero_le _⟩) hS (fun q _ h => hFc q h) hFc (fun r_154 u_154 t9 H1 locs ht9 hvm9 hw9 hB9 hz9 hk9 hS => ?_)
                have er_154 : r_154 = fX12_half 1 x2 g_27.1 := hw9
                obtain ⟨hP, hD⟩ := back_std (w1 := (wX12_half cI cB a_mo a_mem a_mks a_mr a_cnt a_wd a_one a_two a_mmade a_mrest a_old v_thrown v_mask v_key v_wait v_problem v_code v_length v_cond v_masks v_addr v_mwanted u_13 v_after v_calls v_oneB v_twoB g_27.1)) (w2 := (wX12_halves cI cB a_mo a_mem a_mks a_mr a_cnt a_wd a_one a_two a_mmade a_mrest a_old v_thrown v_mask v_key v_wait v_problem v_code v_length v_cond v_masks v_addr v_mwanted u_13 v_after v_calls v_oneB v_twoB w_72.1 v_mkF g_27.1)) (wr := [(a_mem, .inl (cI, 8192, .inl w_72.1)), (a_mks, .inl (cI, 4, .inl v_mkF))]) hP hD [0, 3] [1, 2] [2, 0, 1, 3] rfl rfl (by decide) (by decide) hk9 hFc hB9 ht9 (by decide) rfl
                clear hB9 hk9 hz9 hvm9 ht9 hFc hPc hDc
                generalize H1 = H at hP hS ⊢
                refine lv_ior hx hb dX12_halves_157 ?_
                refine lv_topi (fun x_158 ex_158 => ?_)
                refine lv_istore (lv' := [(8, .int x_158), (0, .ref a_mo), (1, .int x0), (2, .int x1), (3, .int x2), (4, .int x3), (5, .int x4), (6, .int x_67), (7, .int w_72.2)]) hx hb dX12_halves_158 hl (by decide) rfl (fun ls hl => ?_)
                refine lv_goto (tgt := 213) hx hb dX12_halves_160 (by decide) ?_
                exact J_213 x_158 (by subst ex_158; (try simp only [← er_146, ← er_154]); (try simp only [if_neg c_85, if_pos c_140])) _ _ hP hD hS ls (lv_sub hl [1, 2, 3, 4, 5, 6, 7, 8, 0] rfl)
            · skip
              refine lv_iload hx hb dX12_halves_88 (lv_at hl 8 rfl) ?_
              have J_133 : ∀ (m_133 : Int32), m_133 = (if w_72.2 = 0 then (let r_96 := fX12_half 0 x2 g_27.1; ((r_96 <<< (4 &&& 31)) ||| (x_67 &&& 15))) else (let r_116 := fX12_half (2 * w_72.2) x2 g_27.1; let r_129 := fX12_half ((2 * w_72.2) - 1) x2 g_27.1; ((r_116 <<< (4 &&& 31)) ||| r_129))) → ∀ (H : Heap) (locs : List Loc), va_P D vwCl (wX12_halves cI cB a_mo a_mem a_mks a_mr a_cnt a_wd a_one a_two a_mmade a_mrest a_old v_thrown v_mask v_key v_wait v_problem v_code v_length v_cond v_masks v_addr v_mwanted u_13 v_after v_calls v_oneB v_twoB w_72.1 v_mkF g_27.1) H → va_D A (wX12_halves cI cB a_mo a_mem a_mks a_mr a_cnt a_wd a_one a_two a_mmade a_mrest a_old v_thrown v_mask v_key v_wait v_problem v_code v_length v_cond v_masks v_addr v_mwanted u_13 v_after v_calls v_oneB v_twoB w_72.1 v_mkF g_27.1) → va_S A s.heap H locs → ∀ (ls : Array Slot), lv_has ls 9 [(0, .ref a_mo), (1, .int x0), (2, .int x1), (3, .int x2), (4, .int x3), (5, .int x4), (6, .int x_67), (7, .int w_72.2), (8, .int 0)] → W p l e rmX12_halves s m ([.ref a_mo, .int x0, .int x1, .int x2, .int x3, .int x4] : List Value).toArray below meth c H locs 0 0 (MQ below (qX12_halves D cI cB a_mo a_mem a_mks a_mr a_cnt a_wd a_one a_two a_mmade a_mrest a_old v_thrown v_mask v_key v_wait v_problem v_code v_length v_cond v_masks v_addr v_mwanted v_wrong v_after v_calls v_oneB v_twoB v_mF v_mkF v_oldF x0 x1 x2 x3 x4 A) ([.ref a_mo, .int x0, .int x1, .int x2, .int x3, .int x4] : List Value).toArray s 0 0 A) (F0 m 133 ls [.int m_133]) := by
                intro m_133 em_133 H locs hP hD hS ls hl
                try dsimp only at em_133
                refine lv_istore (lv' := [(8, .int m_133), (0, .ref a_mo), (1, .int x0), (2, .int x1), (3, .int x2), (4, .int x3), (5, .int x4), (6, .int x_67), (7, .int w_72.2)]) hx hb dX12_halves_133 hl (by decide) rfl (fun ls hl => ?_)
                refine lv_goto (tgt := 213) hx hb dX12_halves_135 (by decide) ?_
                exact J_213 m_133 (by (try simp only [← em_133]); (try simp only [if_pos c_85])) _ _ hP hD hS ls (lv_sub hl [1, 2, 3, 4, 5, 6, 7, 8, 0] rfl)
              refine lv_if_ne (tgt := 110) hx hb dX12_halves_90 (by decide) (fun c_90 => ?_) (fun c_90 => ?_)
              · skip
                refine lv_aload_n hx hb dX12_halves_110 rfl (lv_at hl 1 rfl) ?_
                refine lv_iconst (v := 2) hx hb dX12_halves_111 (by decide) ?_
                refine lv_iload hx hb dX12_halves_112 (lv_at hl 8 rfl) ?_
                refine lv_imul hx hb dX12_halves_114 ?_
                refine lv_iload_n hx hb dX12_halves_115 rfl (lv_at hl 4 rfl) ?_
                have hPc : va_P D vwCl (wX12_half cI cB a_mo a_mem a_mks a_mr a_cnt a_wd a_one a_two a_mmade a_mrest a_old v_thrown v_mask v_key v_wait v_problem v_code v_length v_cond v_masks v_addr v_mwanted u_13 v_after v_calls v_oneB v_twoB g_27.1) H := hP.sub [0, 3] rfl
                have hDc : va_D A (wX12_half cI cB a_mo a_mem a_mks a_mr a_cnt a_wd a_one a_two a_mmade a_mrest a_old v_thrown v_mask v_key v_wait v_problem v_code v_length v_cond v_masks v_addr v_mwanted u_13 v_after v_calls v_oneB v_twoB g_27.1) := hD.sub [0, 3] (by decide) rfl
                have hFc := va_free (wc := (wX12_half cI cB a_mo a_mem a_mks a_mr a_cnt a_wd a_one a_two a_mmade a_mrest a_old v_thrown v_mask v_key v_wait v_problem v_code v_length v_cond v_masks v_addr v_mwanted u_13 v_after v_calls v_oneB v_twoB g_27.1)) hD hS hA [0, 3] rfl
                refine va_calli (va_runV (As := [.int (2 * w_72.2), .int x2]) (rest := []) ⟨hx, hb, hml, hown, hts⟩ (kX12_half l D cI cB a_mo a_mem a_mks a_mr a_cnt a_wd a_one a_two a_mmade a_mrest a_old H.size v_thrown v_mask v_key v_wait v_problem v_code v_length v_cond v_masks v_addr v_mwanted u_13 v_after v_calls v_oneB v_twoB g_27.1 (2 * w_72.2) x2 (hv_2 hn.2 hI9 c_75) (by first | with_reducible assumption | decide | (unfold vp_in; decide))) (cwV 2 hts (gd_V wd_980 wd_981 wd_982 wd_807 wd_978) rfl rfl rfl hdX12_half ⟨Nat.le_of_ble_eq_true rfl, Nat.le_of_ble_eq_true rfl⟩) (preV_std (ci := 12) (q0 := 0) hPc hK hDc hNW rfl rfl) rfl rfl hl.1 rfl (lv_room (Nat.le_of_ble_eq_true rfl)) dX12_halves_116 ⟨Nat.zero_le _, Nat.zero_le _⟩) hS (fun q _ h => hFc q h) hFc (fun r_116 u_116 t9 H1 locs ht9 hvm9 hw9 hB9 hz9 hk9 hS => ?_)
                have er_116 : r_116 = fX12_half (2 * w_72.2) x2 g_27.1 := hw9
                obtain ⟨hP, hD⟩ := back_std (w1 := (wX12_half cI cB a_mo a_mem a_mks a_mr a_cnt a_wd a_one a_two a_mmade a_mrest a_old v_thrown v_mask v_key v_wait v_problem v_code v_length v_cond v_masks v_addr v_mwanted u_13 v_after v_calls v_oneB v_twoB g_27.1)) (w2 := (wX12_halves cI cB a_mo a_mem a_mks a_mr a_cnt a_wd a_one a_two a_mmade a_mrest a_old v_thrown v_mask v_key v_wait v_problem v_code v_length v_cond v_masks v_addr v_mwanted u_13 v_after v_calls v_oneB v_twoB w_72.1 v_mkF g_27.1)) (wr := [(a_mem, .inl (cI, 8192, .inl w_72.1)), (a_mks, .inl (cI, 4, .inl v_mkF))]) hP hD [0, 3] [1, 2] [2, 0, 1, 3] rfl rfl (by decide) (by decide) hk9 hFc hB9 ht9 (by decide) rfl
                clear hB9 hk9 hz9 hvm9 ht9 hFc hPc hDc
                generalize H1 = H at hP hS ⊢
                refine lv_iconst (v := 4) hx hb dX12_halves_119 (by decide) ?_
                refine lv_ishl hx hb dX12_halves_120 ?_
                refine lv_aload_n hx hb dX12_halves_121 rfl (lv_at hl 1 rfl) ?_
                refine lv_iconst (v := 2) hx hb dX12_halves_122 (by decide) ?_
                refine lv_iload hx hb dX12_halves_123 (lv_at hl 8 rfl) ?_
                refine lv_imul hx hb dX12_halves_125 ?_
                refine lv_iconst (v := 1) hx hb dX12_halves_126 (by decide) ?_
                refine lv_isub hx hb dX12_halves_127 ?_
                refine lv_iload_n hx hb dX12_halves_128 rfl (lv_at hl 4 rfl) ?_
                have hPc : va_P D vwCl (wX12_half cI cB a_mo a_mem a_mks a_mr a_cnt a_wd a_one a_two a_mmade a_mrest a_old v_thrown v_mask v_key v_wait v_problem v_code v_length v_cond v_masks v_addr v_mwanted u_13 v_after v_calls v_oneB v_twoB g_27.1) H := hP.sub [0, 3] rfl
                have hDc : va_D A (wX12_half cI cB a_mo a_mem a_mks a_mr a_cnt a_wd a_one a_two a_mmade a_mrest a_old v_thrown v_mask v_key v_wait v_problem v_code v_length v_cond v_masks v_addr v_mwanted u_13 v_after v_calls v_oneB v_twoB g_27.1) := hD.sub [0, 3] (by decide) rfl
                have hFc := va_free (wc := (wX12_half cI cB a_mo a_mem a_mks a_mr a_cnt a_wd a_one a_two a_mmade a_mrest a_old v_thrown v_mask v_key v_wait v_problem v_code v_length v_cond v_masks v_addr v_mwanted u_13 v_after v_calls v_oneB v_twoB g_27.1)) hD hS hA [0, 3] rfl
                refine va_calli (va_runV (As := [.int (((2 * w_72.2) - 1)), .int x2]) (rest := [.int ((r_116 <<< (4 &&& 31)))]) ⟨hx, hb, hml, hown, hts⟩ (kX12_half l D cI cB a_mo a_mem a_mks a_mr a_cnt a_wd a_one a_two a_mmade a_mrest a_old H.size v_thrown v_mask v_key v_wait v_problem v_code v_length v_cond v_masks v_addr v_mwanted u_13 v_after v_calls v_oneB v_twoB g_27.1 ((2 * w_72.2) - 1) x2 (hv_2m hn.2 hI9 c_75 c_90) (by first | with_reducible assumption | decide | (unfold vp_in; decide))) (cwV 2 hts (gd_V wd_980 wd_981 wd_982 wd_807 wd_978) rfl rfl rfl hdX12_half ⟨Nat.le_of_ble_eq_true rfl, Nat.le_of_ble_eq_true rfl⟩) (preV_std (ci := 12) (q0 := 0) hPc hK hDc hNW rfl rfl) rfl rfl hl.1 rfl (lv_room (Nat.le_of_ble_eq_true rfl)) dX12_halves_129 ⟨Nat.zero_le _, Nat.zero_le _⟩) hS (fun q _ h => hFc q h) hFc (fun r_129 u_129 t9 H1 locs ht9 hvm9 hw9 hB9 hz9 hk9 hS => ?_)
                have er_129 : r_129 = fX12_half ((2 * w_72.2) - 1) x2 g_27.1 := hw9
                obtain ⟨hP, hD⟩ := back_std (w1 := (wX12_half cI cB a_mo a_mem a_mks a_mr a_cnt a_wd a_one a_two a_mmade a_mrest a_old v_thrown v_mask v_key v_wait v_problem v_code v_length v_cond v_masks v_addr v_mwanted u_13 v_after v_calls v_oneB v_twoB g_27.1)) (w2 := (wX12_halves cI cB a_mo a_mem a_mks a_mr a_cnt a_wd a_one a_two a_mmade a_mrest a_old v_thrown v_mask v_key v_wait v_problem v_code v_length v_cond v_masks v_addr v_mwanted u_13 v_after v_calls v_oneB v_twoB w_72.1 v_mkF g_27.1)) (wr := [(a_mem, .inl (cI, 8192, .inl w_72.1)), (a_mks, .inl (cI, 4, .inl v_mkF))]) hP hD [0, 3] [1, 2] [2, 0, 1, 3] rfl rfl (by decide) (by decide) hk9 hFc hB9 ht9 (by decide) rfl
                clear hB9 hk9 hz9 hvm9 ht9 hFc hPc hDc
                generalize H1 = H at hP hS ⊢
                refine lv_ior hx hb dX12_halves_132 ?_
                exact J_133 ((r_116 <<< (4 &&& 31)) ||| r_129) (by (try simp only [← er_116, ← er_129]); (try simp only [if_neg c_90])) _ _ hP hD hS ls (lv_sub hl [1, 2, 3, 4, 5, 6, 7, 8, 0] rfl)
              · skip
                refine lv_aload_n hx hb dX12_halves_93 rfl (lv_at hl 1 rfl) ?_
                refine lv_iconst (v := 0) hx hb dX12_halves_94 (by decide) ?_
                refine lv_iload_n hx hb dX12_halves_95 rfl (lv_at hl 4 rfl) ?_
                have hPc : va_P D vwCl (wX12_half cI cB a_mo a_mem a_mks a_mr a_cnt a_wd a_one a_two a_mmade a_mrest a_old v_thrown v_mask v_key v_wait v_problem v_code v_length v_cond v_masks v_addr v_mwanted u_13 v_after v_calls v_oneB v_twoB g_27.1) H := hP.sub [0, 3] rfl
                have hDc : va_D A (wX12_half cI cB a_mo a_mem a_mks a_mr a_cnt a_wd a_one a_two a_mmade a_mrest a_old v_thrown v_mask v_key v_wait v_problem v_code v_length v_cond v_masks v_addr v_mwanted u_13 v_after v_calls v_oneB v_twoB g_27.1) := hD.sub [0, 3] (by decide) rfl
                have hFc := va_free (wc := (wX12_half cI cB a_mo a_mem a_mks a_mr a_cnt a_wd a_one a_two a_mmade a_mrest a_old v_thrown v_mask v_key v_wait v_problem v_code v_length v_cond v_masks v_addr v_mwanted u_13 v_after v_calls v_oneB v_twoB g_27.1)) hD hS hA [0, 3] rfl
                refine va_calli (va_runV (As := [.int 0, .int x2]) (rest := []) ⟨hx, hb, hml, hown, hts⟩ (kX12_half l D cI cB a_mo a_mem a_mks a_mr a_cnt a_wd a_one a_two a_mmade a_mrest a_old H.size v_thrown v_mask v_key v_wait v_problem v_code v_length v_cond v_masks v_addr v_mwanted u_13 v_after v_calls v_oneB v_twoB g_27.1 0 x2 (by first | with_reducible assumption | decide | (unfold vp_in; decide)) (by first | with_reducible assumption | decide | (unfold vp_in; decide))) (cwV 2 hts (gd_V wd_980 wd_981 wd_982 wd_807 wd_978) rfl rfl rfl hdX12_half ⟨Nat.le_of_ble_eq_true rfl, Nat.le_of_ble_eq_true rfl⟩) (preV_std (ci := 12) (q0 := 0) hPc hK hDc hNW rfl rfl) rfl rfl hl.1 rfl (lv_room (Nat.le_of_ble_eq_true rfl)) dX12_halves_96 ⟨Nat.zero_le _, Nat.zero_le _⟩) hS (fun q _ h => hFc q h) hFc (fun r_96 u_96 t9 H1 locs ht9 hvm9 hw9 hB9 hz9 hk9 hS => ?_)
                have er_96 : r_96 = fX12_half 0 x2 g_27.1 := hw9
                obtain ⟨hP, hD⟩ := back_std (w1 := (wX12_half cI cB a_mo a_mem a_mks a_mr a_cnt a_wd a_one a_two a_mmade a_mrest a_old v_thrown v_mask v_key v_wait v_problem v_code v_length v_cond v_masks v_addr v_mwanted u_13 v_after v_calls v_oneB v_twoB g_27.1)) (w2 := (wX12_halves cI cB a_mo a_mem a_mks a_mr a_cnt a_wd a_one a_two a_mmade a_mrest a_old v_thrown v_mask v_key v_wait v_problem v_code v_length v_cond v_masks v_addr v_mwanted u_13 v_after v_calls v_oneB v_twoB w_72.1 v_mkF g_27.1)) (wr := [(a_mem, .inl (cI, 8192, .inl w_72.1)), (a_mks, .inl (cI, 4, .inl v_mkF))]) hP hD [0, 3] [1, 2] [2, 0, 1, 3] rfl rfl (by decide) (by decide) hk9 hFc hB9 ht9 (by decide) rfl
                clear hB9 hk9 hz9 hvm9 ht9 hFc hPc hDc
                generalize H1 = H at hP hS ⊢
                refine lv_iconst (v := 4) hx hb dX12_halves_99 (by decide) ?_
                refine lv_ishl hx hb dX12_halves_100 ?_
                refine lv_iload hx hb dX12_halves_101 (lv_at hl 7 rfl) ?_
                refine lv_bipush (v := 15) hx hb dX12_halves_103 (by decide) ?_
                refine lv_iand hx hb dX12_halves_105 ?_
                refine lv_ior hx hb dX12_halves_106 ?_
                refine lv_goto (tgt := 133) hx hb dX12_halves_107 (by decide) ?_
                exact J_133 ((r_96 <<< (4 &&& 31)) ||| (x_67 &&& 15)) (by (try simp only [← er_96]); (try simp only [if_pos c_90])) _ _ hP hD hS ls (lv_sub hl [1, 2, 3, 4, 5, 6, 7, 8, 0] rfl)
      exact lp_72 (msU x1 0 + 1) (v_mF, 0) (Nat.lt_succ_self _) (by show (0 : Int32) ≤ 0; decide) eg_72.symm _ _ hP hD hS ls (lv_sub hl [2, 3, 4, 5, 6, 7, 1, 0] rfl)
    have lp_27 : ∀ (n9 : Nat) (w_27 : ((Nat → Int32) × Int32)), msU x2 w_27.2 < n9 → 0 ≤ w_27.2 → LX12_halves_27 x2 x4 v_mF n9 w_27 = g_27 → ∀ (H : Heap) (locs : List Loc), va_P D vwCl (wX12_halves cI cB a_mo a_mem a_mks a_mr a_cnt a_wd a_one a_two a_mmade a_mrest a_old v_thrown v_mask v_key v_wait v_problem v_code v_length v_cond v_masks v_addr v_mwanted u_13 v_after v_calls v_oneB v_twoB v_mF v_mkF w_27.1) H → va_D A (wX12_halves cI cB a_mo a_mem a_mks a_mr a_cnt a_wd a_one a_two a_mmade a_mrest a_old v_thrown v_mask v_key v_wait v_problem v_code v_length v_cond v_masks v_addr v_mwanted u_13 v_after v_calls v_oneB v_twoB v_mF v_mkF w_27.1) → va_S A s.heap H locs → ∀ (ls : Array Slot), lv_has ls 9 [(0, .ref a_mo), (1, .int x0), (2, .int x1), (3, .int x2), (4, .int x3), (5, .int x4), (6, .int w_27.2)] → W p l e rmX12_halves s m ([.ref a_mo, .int x0, .int x1, .int x2, .int x3, .int x4] : List Value).toArray below meth c H locs 0 0 (MQ below (qX12_halves D cI cB a_mo a_mem a_mks a_mr a_cnt a_wd a_one a_two a_mmade a_mrest a_old v_thrown v_mask v_key v_wait v_problem v_code v_length v_cond v_masks v_addr v_mwanted v_wrong v_after v_calls v_oneB v_twoB v_mF v_mkF v_oldF x0 x1 x2 x3 x4 A) ([.ref a_mo, .int x0, .int x1, .int x2, .int x3, .int x4] : List Value).toArray s 0 0 A) (F0 m 27 ls []) := by
      intro n9
      induction n9 with
      | zero => intro w_27 hm9; exact absurd hm9 (Nat.not_lt_zero _)
      | succ n9 ih =>
        intro w_27 hm9 hI9 hL9 H locs hP hD hS ls hl
        have hI_27 := hI9
        refine lv_iload hx hb dX12_halves_27 (lv_at hl 6 rfl) ?_
        refine lv_iload_n hx hb dX12_halves_29 rfl (lv_at hl 3 rfl) ?_
        refine lv_icmp_ge (tgt := 56) hx hb dX12_halves_30 (by decide) (fun c_30 => ?_) (fun c_30 => ?_)
        · skip
          have hg9 : (w_27.1, w_27.2) = g_27 := by rw [← hL9]; simp only [LX12_halves_27]; (try simp only [if_pos c_30])
          subst hg9
          exact K_27_0 _ _ hP hD hS ls (lv_sub hl [0, 1, 2, 3, 4, 5, 6] rfl)
        · skip
          refine lv_aload_n hx hb dX12_halves_33 rfl (lv_at hl 0 rfl) ?_
          refine va_get (D := D) (ci := 12) (v := .ref a_old) (C := RX12) (T := TX12) (N := 26) hx hb hts in_X12 hown hK hP 0 rfl rfl 25 (by decide) q_1 (fun _ h9 => h9) rfl dX12_halves_34 ?_
          refine lv_iload hx hb dX12_halves_37 (lv_at hl 6 rfl) ?_
          refine lv_aload_n hx hb dX12_halves_39 rfl (lv_at hl 0 rfl) ?_
          refine va_get (D := D) (ci := 12) (v := .ref a_mem) (C := RX12) (T := TX12) (N := 26) hx hb hts in_X12 hown hK hP 0 rfl rfl 1 (by decide) q_2 (fun _ h9 => h9) rfl dX12_halves_40 ?_
          refine lv_iload hx hb dX12_halves_43 (lv_at hl 5 rfl) ?_
          refine lv_iload hx hb dX12_halves_45 (lv_at hl 6 rfl) ?_
          refine lv_iadd hx hb dX12_halves_47 ?_
          refine va_iald hx hb hK hP 1 0 rfl rfl (inM_at hAB.2 hI9 c_30) dX12_halves_48 ?_
          refine va_iast hx hb hK hP hD hS 3 0 rfl rfl (vin_n (Int.le_trans hm.2 (by decide)) hI9 c_30) dX12_halves_49 (fun H locs hP hD hS => ?_)
          obtain ⟨f_49, ef_49⟩ : ∃ z : Nat → Int32, z = upd w_27.1 (w_27.2 : Int32).toNatClampNeg ((v_mF ((x4 + w_27.2) : Int32).toNatClampNeg)) := ⟨_, rfl⟩
          have hP : va_P D vwCl (wX12_halves cI cB a_mo a_mem a_mks a_mr a_cnt a_wd a_one a_two a_mmade a_mrest a_old v_thrown v_mask v_key v_wait v_problem v_code v_length v_cond v_masks v_addr v_mwanted u_13 v_after v_calls v_oneB v_twoB v_mF v_mkF (upd w_27.1 (w_27.2 : Int32).toNatClampNeg ((v_mF ((x4 + w_27.2) : Int32).toNatClampNeg)))) H := hP
          have hD : va_D A (wX12_halves cI cB a_mo a_mem a_mks a_mr a_cnt a_wd a_one a_two a_mmade a_mrest a_old v_thrown v_mask v_key v_wait v_problem v_code v_length v_cond v_masks v_addr v_mwanted u_13 v_after v_calls v_oneB v_twoB v_mF v_mkF (upd w_27.1 (w_27.2 : Int32).toNatClampNeg ((v_mF ((x4 + w_27.2) : Int32).toNatClampNeg)))) := hD
          rw [← ef_49] at hP hD
          obtain ⟨x_50, ex_50⟩ : ∃ z : Int32, z = w_27.2 + 1 := ⟨_, rfl⟩
          refine lv_iinc (v := x_50) (lv' := [(6, .int x_50), (0, .ref a_mo), (1, .int x0), (2, .int x1), (3, .int x2), (4, .int x3), (5, .int x4)]) hx hb dX12_halves_50 hl (k := 6) rfl (by rw [ex_50]; rfl) (by decide) rfl (fun ls hl => ?_)
          refine lv_goto (tgt := 27) hx hb dX12_halves_53 (by decide) ?_
          exact ih (f_49, x_50) (by subst ex_50; subst ef_49;  exact Nat.lt_of_lt_of_le (ms_up c_30) (Nat.le_of_lt_succ hm9)) (by subst ex_50; subst ef_49;  exact nn_up hI9 c_30) (by rw [← hL9]; subst ex_50; subst ef_49; simp only [LX12_halves_27]; (try simp only [if_neg c_30])) _ _ hP hD hS ls (lv_sub hl [1, 2, 3, 4, 5, 6, 0] rfl)
    exact lp_27 (msU x2 0 + 1) (v_oldF, 0) (Nat.lt_succ_self _) (by show (0 : Int32) ≤ 0; decide) eg_27.symm _ _ hP hD hS ls (lv_sub hl [1, 2, 3, 4, 5, 6, 0] rfl)
  · skip
    have hf9 : (u_13, v_mF, v_oldF) = fX12_halves x0 x1 x2 x3 x4 v_key v_wrong v_mF v_mkF v_oldF := by simp only [fX12_halves, ← eu_5, ← eu_13]; (try simp only [if_neg c_20])
    exact W.vret hx hb hr (fun t9 ht9 hW9 => ⟨⟨(u_13, v_mF, v_oldF), rfl, hf9, ⟨by rw [ht9]; exact hP, va_K.moved hW9.alike hK, hD⟩⟩, hS.F ht9⟩) hS.2.2 dX12_halves_23
theorem hdX12_halves : yX12_halves.cls = RX12 ∧ yX12_halves.cls ≠ "java/lang/invoke/MethodHandle" ∧ yX12_halves.cls ≠ "java/lang/invoke/VarHandle" ∧ (parseMethodDescriptor yX12_halves.desc).map (fun d => d.parameters.length) = some 5 := by decide +kernel
noncomputable def LX12_edit_18 (x1 : Int32) (x2 : Int32) (v_mF : (Nat → Int32)) : Nat → ((Nat → Int32) × Int32) → ((Nat → Int32) × Int32)
  | 0, w_18 => w_18
  | n9 + 1, w_18 =>
    if x1 ≤ w_18.2 then ((w_18.1, w_18.2)) else (let f_39 := upd w_18.1 (w_18.2 : Int32).toNatClampNeg ((v_mF ((x2 + w_18.2) : Int32).toNatClampNeg)); let x_40 := w_18.2 + 1; LX12_edit_18 x1 x2 v_mF n9 (f_39, x_40))
noncomputable def LX12_edit_78 (x0 : Int32) (x1 : Int32) (x2 : Int32) (v_key : Int32) (v_mkF : (Nat → Int32)) (g_18 : ((Nat → Int32) × Int32)) (x_52 : Int32) : Nat → (Int32 × (Nat → Int32) × Int32 × Int32 × Int32 × Int32 × Int32 × Int32) → (Int32 × (Nat → Int32) × Int32 × Int32 × Int32 × Int32 × Int32 × Int32)
  | 0, w_78 => w_78
  | n9 + 1, w_78 =>
    if x1 ≤ w_78.2.2.2.2.2.2.2 then ((w_78.1, w_78.2.1, w_78.2.2.1, w_78.2.2.2.1, w_78.2.2.2.2.1, w_78.2.2.2.2.2.1, w_78.2.2.2.2.2.2.1, w_78.2.2.2.2.2.2.2)) else (if w_78.1 = 0 then (let x_100 := (w_78.2.1 ((x2 + w_78.2.2.2.2.2.2.2) : Int32).toNatClampNeg); let m_448 : (Int32 × (Nat → Int32) × Int32 × Int32 × Int32 × Int32 × Int32) := (if x_100 = 32 then (let m_290 : (Int32 × Int32 × Int32 × Int32 × Int32 × Int32) := (if 0 ≤ w_78.2.2.2.1 then ((w_78.1, (-1), 0, 0, w_78.2.2.2.1, w_78.2.2.2.2.1)) else (let u_139 := fX12_look (w_78.2.2.2.2.1 &&& 16777215) 1 0 v_key w_78.1 v_mkF; let x_147 := (w_78.2.2.2.2.1 &&& 16777215); let m_193 : Int32 := (if u_139 ≤ 0 then (if x_147 < x2 then ((w_78.2.1 (x_147 : Int32).toNatClampNeg)) else (if (x2 + x1) ≤ x_147 then ((w_78.2.1 (x_147 : Int32).toNatClampNeg)) else ((g_18.1 ((x_147 - x2) : Int32).toNatClampNeg)))) else (0)); let x_195 := w_78.2.2.2.2.1 + 1; let x_202 := (m_193 >>> (4 &&& 31)); let x_209 := (m_193 &&& 15); let m_231 : Int32 := (if u_139 = 0 then (if x_202 ≤ 9 then (u_139) else (let u_228 := fX12_meet 7 u_139; u_228)) else (u_139)); let m_243 : Int32 := (if x_209 ≤ 9 then (0) else (1)); let m_269 : Int32 := (if m_243 = 0 then (0) else (if x_209 = 11 then (0) else (if x_209 = 13 then (0) else (1)))); let m_282 : Int32 := (if m_243 = 0 then (x_209) else ((-1))); (m_231, m_282, m_269, m_243, x_202, x_195))); let m_316 : Int32 := (if x0 = 0 then (w_78.2.2.2.2.2.1) else (if m_290.2.2.2.2.1 = 0 then (w_78.2.2.2.2.2.1) else (if w_78.2.2.1 = 0 then (let x_314 := ((w_78.2.2.2.2.2.1 &&& (-16777216 : Int32)) ||| (x2 + w_78.2.2.2.2.2.2.2)); x_314) else (w_78.2.2.2.2.2.1)))); let m_345 : Int32 := (if m_290.2.2.2.2.1 = 0 then (if w_78.2.2.1 = 0 then (x_52) else ((240 ||| m_290.2.2.2.2.1))) else ((240 ||| m_290.2.2.2.2.1))); let f_345 := upd w_78.2.1 ((x2 + w_78.2.2.2.2.2.2.2) : Int32).toNatClampNeg (m_345); let m_361 : Int32 := (if w_78.2.2.2.2.2.2.1 = 0 then (if m_290.2.2.2.2.1 = 0 then (0) else (1)) else (1)); let m_390 : Int32 := (if w_78.2.2.1 = 0 then (if x_100 = 33 then (if m_290.2.2.1 = 0 then (1) else (0)) else (if m_290.2.2.2.2.1 = 0 then (0) else (if m_290.2.2.1 = 0 then (1) else (0)))) else (if m_290.2.2.1 = 0 then (1) else (0))); (m_290.1, f_345, m_390, m_290.2.1, m_290.2.2.2.2.2, m_316, m_361)) else (if x_100 = 33 then (let m_290 : (Int32 × Int32 × Int32 × Int32 × Int32 × Int32) := (if 0 ≤ w_78.2.2.2.1 then ((w_78.1, (-1), 0, 0, w_78.2.2.2.1, w_78.2.2.2.2.1)) else (let u_139 := fX12_look (w_78.2.2.2.2.1 &&& 16777215) 1 0 v_key w_78.1 v_mkF; let x_147 := (w_78.2.2.2.2.1 &&& 16777215); let m_193 : Int32 := (if u_139 ≤ 0 then (if x_147 < x2 then ((w_78.2.1 (x_147 : Int32).toNatClampNeg)) else (if (x2 + x1) ≤ x_147 then ((w_78.2.1 (x_147 : Int32).toNatClampNeg)) else ((g_18.1 ((x_147 - x2) : Int32).toNatClampNeg)))) else (0)); let x_195 := w_78.2.2.2.2.1 + 1; let x_202 := (m_193 >>> (4 &&& 31)); let x_209 := (m_193 &&& 15); let m_231 : Int32 := (if u_139 = 0 then (if x_202 ≤ 9 then (u_139) else (let u_228 := fX12_meet 7 u_139; u_228)) else (u_139)); let m_243 : Int32 := (if x_209 ≤ 9 then (0) else (1)); let m_269 : Int32 := (if m_243 = 0 then (0) else (if x_209 = 11 then (0) else (if x_209 = 13 then (0) else (1)))); let m_282 : Int32 := (if m_243 = 0 then (x_209) else ((-1))); (m_231, m_282, m_269, m_243, x_202, x_195))); let m_316 : Int32 := (if x0 = 0 then (w_78.2.2.2.2.2.1) else (if m_290.2.2.2.2.1 = 0 then (w_78.2.2.2.2.2.1) else (if w_78.2.2.1 = 0 then (let x_314 := ((w_78.2.2.2.2.2.1 &&& (-16777216 : Int32)) ||| (x2 + w_78.2.2.2.2.2.2.2)); x_314) else (w_78.2.2.2.2.2.1)))); let m_345 : Int32 := (if m_290.2.2.2.2.1 = 0 then (if w_78.2.2.1 = 0 then (x_52) else ((240 ||| m_290.2.2.2.2.1))) else ((240 ||| m_290.2.2.2.2.1))); let f_345 := upd w_78.2.1 ((x2 + w_78.2.2.2.2.2.2.2) : Int32).toNatClampNeg (m_345); let m_361 : Int32 := (if w_78.2.2.2.2.2.2.1 = 0 then (if m_290.2.2.2.2.1 = 0 then (0) else (1)) else (1)); let m_390 : Int32 := (if w_78.2.2.1 = 0 then (if m_290.2.2.1 = 0 then (1) else (0)) else (if m_290.2.2.1 = 0 then (1) else (0))); (m_290.1, f_345, m_390, m_290.2.1, m_290.2.2.2.2.2, m_316, m_361)) else (if x_100 = 34 then (let f_412 := upd w_78.2.1 ((x2 + w_78.2.2.2.2.2.2.2) : Int32).toNatClampNeg (x_52); (w_78.1, f_412, 0, w_78.2.2.2.1, w_78.2.2.2.2.1, w_78.2.2.2.2.2.1, 0)) else (let m_447 : Int32 := (if w_78.2.2.1 = 0 then (if w_78.2.2.2.2.2.2.2 = 0 then (x_100) else (x_52)) else (x_100)); let f_447 := upd w_78.2.1 ((x2 + w_78.2.2.2.2.2.2.2) : Int32).toNatClampNeg (m_447); (w_78.1, f_447, w_78.2.2.1, w_78.2.2.2.1, w_78.2.2.2.2.1, w_78.2.2.2.2.2.1, w_78.2.2.2.2.2.2.1))))); let x_448 := w_78.2.2.2.2.2.2.2 + 1; LX12_edit_78 x0 x1 x2 v_key v_mkF g_18 x_52 n9 (m_448.1, m_448.2.1, m_448.2.2.1, m_448.2.2.2.1, m_448.2.2.2.2.1, m_448.2.2.2.2.2.1, m_448.2.2.2.2.2.2, x_448)) else ((w_78.1, w_78.2.1, w_78.2.2.1, w_78.2.2.2.1, w_78.2.2.2.2.1, w_78.2.2.2.2.2.1, w_78.2.2.2.2.2.2.1, w_78.2.2.2.2.2.2.2)))
noncomputable def LX12_edit_464 (x1 : Int32) (x2 : Int32) (g_18 : ((Nat → Int32) × Int32)) : Nat → ((Nat → Int32) × Int32) → ((Nat → Int32) × Int32)
  | 0, w_464 => w_464
  | n9 + 1, w_464 =>
    if x1 ≤ w_464.2 then ((w_464.1, w_464.2)) else (let f_485 := upd w_464.1 ((x2 + w_464.2) : Int32).toNatClampNeg ((g_18.1 (w_464.2 : Int32).toNatClampNeg)); let x_486 := w_464.2 + 1; LX12_edit_464 x1 x2 g_18 n9 (f_485, x_486))
noncomputable def fX12_edit (x0 : Int32) (x1 : Int32) (x2 : Int32) (x3 : Int32) (v_key : Int32) (v_cond : Int32) (v_wrong : Int32) (v_mF : (Nat → Int32)) (v_mkF : (Nat → Int32)) (v_mrF : (Nat → Int32)) (v_oldF : (Nat → Int32)) : (Int32 × Int32 × (Nat → Int32) × (Nat → Int32) × (Nat → Int32)) :=
  let u_4 := fX12_look x2 x1 1 v_key v_wrong v_mkF
  if u_4 ≤ 0 then (let g_18 := LX12_edit_18 x1 x2 v_mF (msU x1 0 + 1) (v_oldF, 0); let x_52 := (v_mF (x2 : Int32).toNatClampNeg); let x_70 := (v_mrF (1 : Int32).toNatClampNeg); let g_78 := LX12_edit_78 x0 x1 x2 v_key v_mkF g_18 x_52 (msU x1 0 + 1) (u_4, v_mF, 0, (-1), x3, x_70, 0, 0); if g_78.1 ≤ 0 then (let f_500 := upd v_mrF (1 : Int32).toNatClampNeg (g_78.2.2.2.2.2.1); let m_521 : Int32 := (if g_78.2.2.2.2.2.2.1 = 0 then (0) else (if g_78.2.2.1 = 0 then (2) else (1))); (m_521, g_78.1, g_78.2.1, f_500, g_18.1)) else (let g_464 := LX12_edit_464 x1 x2 g_18 (msU x1 0 + 1) (g_78.2.1, 0); (v_cond, g_78.1, g_464.1, v_mrF, g_18.1))) else ((v_cond, u_4, v_mF, v_mrF, v_oldF))
abbrev wX12_edit (cI cB : ClassId) (a_mo a_mem a_mks a_mr a_cnt a_wd a_one a_two a_mmade a_mrest a_old : Nat) (v_thrown : Int32) (v_mask : Int32) (v_key : Int32) (v_wait : Int32) (v_problem : Int32) (v_code : Int32) (v_length : Int32) (v_cond : Int32) (v_masks : Int32) (v_addr : Int32) (v_mwanted : Int32) (v_wrong : Int32) (v_after : Int32) (v_calls : Int32) (v_oneB : Int32) (v_twoB : Int32) (v_mF : (Nat → Int32)) (v_mkF : (Nat → Int32)) (v_mrF : (Nat → Int32)) (v_oldF : (Nat → Int32)) : va_W := [(a_mo, .inr (12, [.int v_thrown, .ref a_mem, .ref a_mks, .ref a_mr, .int v_mask, .int v_key, .int v_wait, .int v_problem, .int v_code, .int v_length, .int v_cond, .int v_masks, .int v_addr, .int v_mwanted, .ref a_cnt, .ref a_wd, .int v_wrong, .int v_after, .int v_calls, .ref a_one, .int v_oneB, .ref a_two, .int v_twoB, .ref a_mmade, .ref a_mrest, .ref a_old])), (a_mem, .inl (cI, 8192, .inl v_mF)), (a_mks, .inl (cI, 4, .inl v_mkF)), (a_mr, .inl (cI, 16, .inl v_mrF)), (a_old, .inl (cI, 512, .inl v_oldF))]
abbrev rmX12_edit : Room := { frames := 2, cells := 0, slots := 0, locals := 48 }
abbrev qX12_edit (D : va_G) (cI cB : ClassId) (a_mo a_mem a_mks a_mr a_cnt a_wd a_one a_two a_mmade a_mrest a_old : Nat) (v_thrown : Int32) (v_mask : Int32) (v_key : Int32) (v_wait : Int32) (v_problem : Int32) (v_code : Int32) (v_length : Int32) (v_cond : Int32) (v_masks : Int32) (v_addr : Int32) (v_mwanted : Int32) (v_wrong : Int32) (v_after : Int32) (v_calls : Int32) (v_oneB : Int32) (v_twoB : Int32) (v_mF : (Nat → Int32)) (v_mkF : (Nat → Int32)) (v_mrF : (Nat → Int32)) (v_oldF : (Nat → Int32)) (x0 : Int32) (x1 : Int32) (x2 : Int32) (x3 : Int32) : (Nat → Prop) → Array Value → State → Outcome → State → Prop := fun A9 => va_Qv (fun (u9 : (Int32 × Int32 × (Nat → Int32) × (Nat → Int32) × (Nat → Int32))) => u9 = fX12_edit x0 x1 x2 x3 v_key v_cond v_wrong v_mF v_mkF v_mrF v_oldF) (fun u9 t9 => atW D (TYS cI cB) A9 (wX12_edit cI cB a_mo a_mem a_mks a_mr a_cnt a_wd a_one a_two a_mmade a_mrest a_old v_thrown v_mask v_key v_wait v_problem v_code v_length u9.1 v_masks v_addr v_mwanted u9.2.1 v_after v_calls v_oneB v_twoB u9.2.2.1 v_mkF u9.2.2.2.1 u9.2.2.2.2) t9) A9
set_option maxHeartbeats 4000000 in
set_option maxRecDepth 100000 in
theorem kX12_edit (l : Launch) (D : va_G) (cI cB : ClassId) (a_mo a_mem a_mks a_mr a_cnt a_wd a_one a_two a_mmade a_mrest a_old : Nat) (sz : Nat) (v_thrown : Int32) (v_mask : Int32) (v_key : Int32) (v_wait : Int32) (v_problem : Int32) (v_code : Int32) (v_length : Int32) (v_cond : Int32) (v_masks : Int32) (v_addr : Int32) (v_mwanted : Int32) (v_wrong : Int32) (v_after : Int32) (v_calls : Int32) (v_oneB : Int32) (v_twoB : Int32) (v_mF : (Nat → Int32)) (v_mkF : (Nat → Int32)) (v_mrF : (Nat → Int32)) (v_oldF : (Nat → Int32)) (x0 : Int32) (x1 : Int32) (x2 : Int32) (x3 : Int32) (hn : 1 ≤ x1.toInt ∧ x1.toInt ≤ 256) (ha : in24 x2) (hw : 0 ≤ v_wrong) : MetW l yX12_edit (WK yX12_edit cX12_edit 18 none) rmX12_edit D (TYS cI cB) (wX12_edit cI cB a_mo a_mem a_mks a_mr a_cnt a_wd a_one a_two a_mmade a_mrest a_old v_thrown v_mask v_key v_wait v_problem v_code v_length v_cond v_masks v_addr v_mwanted v_wrong v_after v_calls v_oneB v_twoB v_mF v_mkF v_mrF v_oldF) sz [.ref a_mo, .int x0, .int x1, .int x2, .int x3] (qX12_edit D cI cB a_mo a_mem a_mks a_mr a_cnt a_wd a_one a_two a_mmade a_mrest a_old v_thrown v_mask v_key v_wait v_problem v_code v_length v_cond v_masks v_addr v_mwanted v_wrong v_after v_calls v_oneB v_twoB v_mF v_mkF v_mrF v_oldF x0 x1 x2 x3) 0 0 := by
  refine met_std (by decide) rfl (Nat.le_of_ble_eq_true rfl) ?_
  intro p e s m below meth c A ls H hx hb hr hml hown hts hlocks hA hP hK hD hS hNW hl
  have hl : lv_has ls 18 [(0, .ref a_mo), (1, .int x0), (2, .int x1), (3, .int x2), (4, .int x3)] := hl
  have q_0 := hts _ (List.mem_cons_of_mem _ wd_836)
  have q_1 := hts _ (List.mem_cons_of_mem _ wd_786)
  have q_2 := hts _ (List.mem_cons_of_mem _ wd_777)
  have q_3 := hts _ (List.mem_cons_of_mem _ wd_779)
  have q_4 := hts _ (List.mem_cons_of_mem _ wd_810)
  have q_5 := hts _ (List.mem_cons_of_mem _ wd_977)
  have q_6 := hts _ (List.mem_cons_of_mem _ wd_792)
  refine lv_aload_n hx hb dX12_edit_0 rfl (lv_at hl 0 rfl) ?_
  refine lv_iload_n hx hb dX12_edit_1 rfl (lv_at hl 3 rfl) ?_
  refine lv_iload_n hx hb dX12_edit_2 rfl (lv_at hl 2 rfl) ?_
  refine lv_iconst (v := 1) hx hb dX12_edit_3 (by decide) ?_
  have hPc : va_P D vwCl (wX12_look cI cB a_mo a_mem a_mks a_mr a_cnt a_wd a_one a_two a_mmade a_mrest a_old v_thrown v_mask v_key v_wait v_problem v_code v_length v_cond v_masks v_addr v_mwanted v_wrong v_after v_calls v_oneB v_twoB v_mkF) H := hP.sub [0, 2] rfl
  have hDc : va_D A (wX12_look cI cB a_mo a_mem a_mks a_mr a_cnt a_wd a_one a_two a_mmade a_mrest a_old v_thrown v_mask v_key v_wait v_problem v_code v_length v_cond v_masks v_addr v_mwanted v_wrong v_after v_calls v_oneB v_twoB v_mkF) := hD.sub [0, 2] (by decide) rfl
  have hFc := va_free (wc := (wX12_look cI cB a_mo a_mem a_mks a_mr a_cnt a_wd a_one a_two a_mmade a_mrest a_old v_thrown v_mask v_key v_wait v_problem v_code v_length v_cond v_masks v_addr v_mwanted v_wrong v_after v_calls v_oneB v_twoB v_mkF)) hD hS hA [0, 2] rfl
  refine va_callv (va_runV (As := [.int x2, .int x1, .int 1]) (rest := []) ⟨hx, hb, hml, hown, hts⟩ (kX12_look l D cI cB a_mo a_mem a_mks a_mr a_cnt a_wd a_one a_two a_mmade a_mrest a_old H.size v_thrown v_mask v_key v_wait v_problem v_code v_length v_cond v_masks v_addr v_mwanted v_wrong v_after v_calls v_oneB v_twoB v_mkF x2 x1 1) (cwV 3 hts (gd_V wd_857 wd_858 wd_859 wd_807 wd_837) rfl rfl rfl hdX12_look ⟨Nat.le_of_ble_eq_true rfl, Nat.le_of_ble_eq_true rfl⟩) (preV_std (ci := 12) (q0 := 0) hPc hK hDc hNW rfl rfl) rfl rfl hl.1 rfl (lv_room (Nat.le_of_ble_eq_true rfl)) dX12_edit_4 ⟨Nat.zero_le _, Nat.zero_le _⟩) hS (fun q _ h => hFc q h) hFc (fun u_4 t9 H1 locs ht9 hvm9 hw9 hB9 hz9 hk9 hS => ?_)
  have eu_4 : u_4 = fX12_look x2 x1 1 v_key v_wrong v_mkF := hw9
  obtain ⟨hP, hD⟩ := back_std (w1 := (wX12_look cI cB a_mo a_mem a_mks a_mr a_cnt a_wd a_one a_two a_mmade a_mrest a_old v_thrown v_mask v_key v_wait v_problem v_code v_length v_cond v_masks v_addr v_mwanted u_4 v_after v_calls v_oneB v_twoB v_mkF)) (w2 := (wX12_edit cI cB a_mo a_mem a_mks a_mr a_cnt a_wd a_one a_two a_mmade a_mrest a_old v_thrown v_mask v_key v_wait v_problem v_code v_length v_cond v_masks v_addr v_mwanted u_4 v_after v_calls v_oneB v_twoB v_mF v_mkF v_mrF v_oldF)) (wr := [(a_mem, .inl (cI, 8192, .inl v_mF)), (a_mr, .inl (cI, 16, .inl v_mrF)), (a_old, .inl (cI, 512, .inl v_oldF))]) hP hD [0, 2] [1, 3, 4] [3, 0, 4, 1, 2] rfl rfl (by decide) (by decide) hk9 hFc hB9 ht9 (by decide) rfl
  clear hB9 hk9 hz9 hvm9 ht9 hFc hPc hDc
  generalize H1 = H at hP hS ⊢
  refine lv_aload_n hx hb dX12_edit_7 rfl (lv_at hl 0 rfl) ?_
  refine va_get (D := D) (ci := 12) (v := .int u_4) (C := RX12) (T := TX12) (N := 26) hx hb hts in_X12 hown hK hP 0 rfl rfl 16 (by decide) q_0 (fun _ h9 => h9) rfl dX12_edit_8 ?_
  refine lv_if_le (tgt := 15) hx hb dX12_edit_11 (by decide) (fun c_11 => ?_) (fun c_11 => ?_)
  · skip
    have hIn := (lk_inM ha hn hw eu_4 c_11).2
    refine lv_iconst (v := 0) hx hb dX12_edit_15 (by decide) ?_
    refine lv_istore (lv' := [(5, .int 0), (0, .ref a_mo), (1, .int x0), (2, .int x1), (3, .int x2), (4, .int x3)]) hx hb dX12_edit_16 hl (by decide) rfl (fun ls hl => ?_)
    obtain ⟨g_18, eg_18⟩ : ∃ z : ((Nat → Int32) × Int32), z = LX12_edit_18 x1 x2 v_mF (msU x1 0 + 1) (v_oldF, 0) := ⟨_, rfl⟩
    have K_18_0 : ∀ (H : Heap) (locs : List Loc), va_P D vwCl (wX12_edit cI cB a_mo a_mem a_mks a_mr a_cnt a_wd a_one a_two a_mmade a_mrest a_old v_thrown v_mask v_key v_wait v_problem v_code v_length v_cond v_masks v_addr v_mwanted u_4 v_after v_calls v_oneB v_twoB v_mF v_mkF v_mrF g_18.1) H → va_D A (wX12_edit cI cB a_mo a_mem a_mks a_mr a_cnt a_wd a_one a_two a_mmade a_mrest a_old v_thrown v_mask v_key v_wait v_problem v_code v_length v_cond v_masks v_addr v_mwanted u_4 v_after v_calls v_oneB v_twoB v_mF v_mkF v_mrF g_18.1) → va_S A s.heap H locs → ∀ (ls : Array Slot), lv_has ls 18 [(0, .ref a_mo), (1, .int x0), (2, .int x1), (3, .int x2), (4, .int x3), (5, .int g_18.2)] → W p l e rmX12_edit s m ([.ref a_mo, .int x0, .int x1, .int x2, .int x3] : List Value).toArray below meth c H locs 0 0 (MQ below (qX12_edit D cI cB a_mo a_mem a_mks a_mr a_cnt a_wd a_one a_two a_mmade a_mrest a_old v_thrown v_mask v_key v_wait v_problem v_code v_length v_cond v_masks v_addr v_mwanted v_wrong v_after v_calls v_oneB v_twoB v_mF v_mkF v_mrF v_oldF x0 x1 x2 x3 A) ([.ref a_mo, .int x0, .int x1, .int x2, .int x3] : List Value).toArray s 0 0 A) (F0 m 46 ls []) := by
      intro H locs hP hD hS ls hl
      refine lv_aload_n hx hb dX12_edit_46 rfl (lv_at hl 0 rfl) ?_
      refine va_get (D := D) (ci := 12) (v := .ref a_mem) (C := RX12) (T := TX12) (N := 26) hx hb hts in_X12 hown hK hP 0 rfl rfl 1 (by decide) q_2 (fun _ h9 => h9) rfl dX12_edit_47 ?_
      refine lv_iload_n hx hb dX12_edit_50 rfl (lv_at hl 3 rfl) ?_
      refine va_iald hx hb hK hP 1 0 rfl rfl (first_in hn.1 hIn) dX12_edit_51 ?_
      refine lv_topi (fun x_52 ex_52 => ?_)
      refine lv_istore (lv' := [(5, .int x_52), (0, .ref a_mo), (1, .int x0), (2, .int x1), (3, .int x2), (4, .int x3)]) hx hb dX12_edit_52 hl (by decide) rfl (fun ls hl => ?_)
      refine lv_iconst (v := 0) hx hb dX12_edit_54 (by decide) ?_
      refine lv_istore (lv' := [(6, .int 0), (5, .int x_52), (0, .ref a_mo), (1, .int x0), (2, .int x1), (3, .int x2), (4, .int x3)]) hx hb dX12_edit_55 hl (by decide) rfl (fun ls hl => ?_)
      refine lv_iconst (v := (-1)) hx hb dX12_edit_57 (by decide) ?_
      refine lv_istore (lv' := [(7, .int (-1)), (6, .int 0), (5, .int x_52), (0, .ref a_mo), (1, .int x0), (2, .int x1), (3, .int x2), (4, .int x3)]) hx hb dX12_edit_58 hl (by decide) rfl (fun ls hl => ?_)
      refine lv_iload hx hb dX12_edit_60 (lv_at hl 7 rfl) ?_
      refine lv_istore (lv' := [(8, .int x3), (7, .int (-1)), (6, .int 0), (5, .int x_52), (0, .ref a_mo), (1, .int x0), (2, .int x1), (3, .int x2), (4, .int x3)]) hx hb dX12_edit_62 hl (by decide) rfl (fun ls hl => ?_)
      refine lv_aload_n hx hb dX12_edit_64 rfl (lv_at hl 4 rfl) ?_
      refine va_get (D := D) (ci := 12) (v := .ref a_mr) (C := RX12) (T := TX12) (N := 26) hx hb hts in_X12 hown hK hP 0 rfl rfl 3 (by decide) q_3 (fun _ h9 => h9) rfl dX12_edit_65 ?_
      refine lv_iconst (v := 1) hx hb dX12_edit_68 (by decide) ?_
      refine va_iald hx hb hK hP 3 0 rfl rfl (by unfold vp_in; decide) dX12_edit_69 ?_
      refine lv_topi (fun x_70 ex_70 => ?_)
      refine lv_istore (lv' := [(9, .int x_70), (8, .int x3), (7, .int (-1)), (6, .int 0), (5, .int x_52), (0, .ref a_mo), (1, .int x0), (2, .int x1), (3, .int x2), (4, .int x3)]) hx hb dX12_edit_70 hl (by decide) rfl (fun ls hl => ?_)
      refine lv_iconst (v := 0) hx hb dX12_edit_72 (by decide) ?_
      refine lv_istore (lv' := [(10, .int 0), (9, .int x_70), (8, .int x3), (7, .int (-1)), (6, .int 0), (5, .int x_52), (0, .ref a_mo), (1, .int x0), (2, .int x1), (3, .int x2), (4, .int x3)]) hx hb dX12_edit_73 hl (by decide) rfl (fun ls hl => ?_)
      refine lv_iconst (v := 0) hx hb dX12_edit_75 (by decide) ?_
      refine lv_istore (lv' := [(11, .int 0), (10, .int 0), (9, .int x_70), (8, .int x3), (7, .int (-1)), (6, .int 0), (5, .int x_52), (0, .ref a_mo), (1, .int x0), (2, .int x1), (3, .int x2), (4, .int x3)]) hx hb dX12_edit_76 hl (by decide) rfl (fun ls hl => ?_)
      obtain ⟨g_78, eg_78⟩ : ∃ z : (Int32 × (Nat → Int32) × Int32 × Int32 × Int32 × Int32 × Int32 × Int32), z = LX12_edit_78 x0 x1 x2 v_key v_mkF g_18 x_52 (msU x1 0 + 1) (u_4, v_mF, 0, (-1), x3, x_70, 0, 0) := ⟨_, rfl⟩
      have K_78_0 : ∀ (H : Heap) (locs : List Loc), va_P D vwCl (wX12_edit cI cB a_mo a_mem a_mks a_mr a_cnt a_wd a_one a_two a_mmade a_mrest a_old v_thrown v_mask v_key v_wait v_problem v_code v_length v_cond v_masks v_addr v_mwanted g_78.1 v_after v_calls v_oneB v_twoB g_78.2.1 v_mkF v_mrF g_18.1) H → va_D A (wX12_edit cI cB a_mo a_mem a_mks a_mr a_cnt a_wd a_one a_two a_mmade a_mrest a_old v_thrown v_mask v_key v_wait v_problem v_code v_length v_cond v_masks v_addr v_mwanted g_78.1 v_after v_calls v_oneB v_twoB g_78.2.1 v_mkF v_mrF g_18.1) → va_S A s.heap H locs → ∀ (ls : Array Slot), lv_has ls 18 [(0, .ref a_mo), (1, .int x0), (2, .int x1), (3, .int x2), (4, .int x3), (5, .int x_52), (6, .int g_78.2.2.1), (7, .int g_78.2.2.2.1), (8, .int g_78.2.2.2.2.1), (9, .int g_78.2.2.2.2.2.1), (10, .int g_78.2.2.2.2.2.2.1), (11, .int g_78.2.2.2.2.2.2.2)] → W p l e rmX12_edit s m ([.ref a_mo, .int x0, .int x1, .int x2, .int x3] : List Value).toArray below meth c H locs 0 0 (MQ below (qX12_edit D cI cB a_mo a_mem a_mks a_mr a_cnt a_wd a_one a_two a_mmade a_mrest a_old v_thrown v_mask v_key v_wait v_problem v_code v_length v_cond v_masks v_addr v_mwanted v_wrong v_after v_calls v_oneB v_twoB v_mF v_mkF v_mrF v_oldF x0 x1 x2 x3 A) ([.ref a_mo, .int x0, .int x1, .int x2, .int x3] : List Value).toArray s 0 0 A) (F0 m 454 ls []) := by
        intro H locs hP hD hS ls hl
        refine lv_aload_n hx hb dX12_edit_454 rfl (lv_at hl 0 rfl) ?_
        refine va_get (D := D) (ci := 12) (v := .int g_78.1) (C := RX12) (T := TX12) (N := 26) hx hb hts in_X12 hown hK hP 0 rfl rfl 16 (by decide) q_0 (fun _ h9 => h9) rfl dX12_edit_455 ?_
        refine lv_if_le (tgt := 493) hx hb dX12_edit_458 (by decide) (fun c_458 => ?_) (fun c_458 => ?_)
        · skip
          refine lv_aload_n hx hb dX12_edit_493 rfl (lv_at hl 0 rfl) ?_
          refine va_get (D := D) (ci := 12) (v := .ref a_mr) (C := RX12) (T := TX12) (N := 26) hx hb hts in_X12 hown hK hP 0 rfl rfl 3 (by decide) q_3 (fun _ h9 => h9) rfl dX12_edit_494 ?_
          refine lv_iconst (v := 1) hx hb dX12_edit_497 (by decide) ?_
          refine lv_iload hx hb dX12_edit_498 (lv_at hl 9 rfl) ?_
          refine va_iast hx hb hK hP hD hS 3 0 rfl rfl (by unfold vp_in; decide) dX12_edit_500 (fun H locs hP hD hS => ?_)
          obtain ⟨f_500, ef_500⟩ : ∃ z : Nat → Int32, z = upd v_mrF (1 : Int32).toNatClampNeg (g_78.2.2.2.2.2.1) := ⟨_, rfl⟩
          have hP : va_P D vwCl (wX12_edit cI cB a_mo a_mem a_mks a_mr a_cnt a_wd a_one a_two a_mmade a_mrest a_old v_thrown v_mask v_key v_wait v_problem v_code v_length v_cond v_masks v_addr v_mwanted g_78.1 v_after v_calls v_oneB v_twoB g_78.2.1 v_mkF (upd v_mrF (1 : Int32).toNatClampNeg (g_78.2.2.2.2.2.1)) g_18.1) H := hP
          have hD : va_D A (wX12_edit cI cB a_mo a_mem a_mks a_mr a_cnt a_wd a_one a_two a_mmade a_mrest a_old v_thrown v_mask v_key v_wait v_problem v_code v_length v_cond v_masks v_addr v_mwanted g_78.1 v_after v_calls v_oneB v_twoB g_78.2.1 v_mkF (upd v_mrF (1 : Int32).toNatClampNeg (g_78.2.2.2.2.2.1)) g_18.1) := hD
          rw [← ef_500] at hP hD
          refine lv_aload_n hx hb dX12_edit_501 rfl (lv_at hl 0 rfl) ?_
          refine lv_iload hx hb dX12_edit_502 (lv_at hl 10 rfl) ?_
          have J_521 : ∀ (m_521 : Int32), m_521 = (if g_78.2.2.2.2.2.2.1 = 0 then (0) else (if g_78.2.2.1 = 0 then (2) else (1))) → ∀ (H : Heap) (locs : List Loc), va_P D vwCl (wX12_edit cI cB a_mo a_mem a_mks a_mr a_cnt a_wd a_one a_two a_mmade a_mrest a_old v_thrown v_mask v_key v_wait v_problem v_code v_length v_cond v_masks v_addr v_mwanted g_78.1 v_after v_calls v_oneB v_twoB g_78.2.1 v_mkF f_500 g_18.1) H → va_D A (wX12_edit cI cB a_mo a_mem a_mks a_mr a_cnt a_wd a_one a_two a_mmade a_mrest a_old v_thrown v_mask v_key v_wait v_problem v_code v_length v_cond v_masks v_addr v_mwanted g_78.1 v_after v_calls v_oneB v_twoB g_78.2.1 v_mkF f_500 g_18.1) → va_S A s.heap H locs → ∀ (ls : Array Slot), lv_has ls 18 [(0, .ref a_mo), (1, .int x0), (2, .int x1), (3, .int x2), (4, .int x3), (5, .int x_52), (6, .int g_78.2.2.1), (7, .int g_78.2.2.2.1), (8, .int g_78.2.2.2.2.1), (9, .int g_78.2.2.2.2.2.1), (10, .int g_78.2.2.2.2.2.2.1), (11, .int g_78.2.2.2.2.2.2.2)] → W p l e rmX12_edit s m ([.ref a_mo, .int x0, .int x1, .int x2, .int x3] : List Value).toArray below meth c H locs 0 0 (MQ below (qX12_edit D cI cB a_mo a_mem a_mks a_mr a_cnt a_wd a_one a_two a_mmade a_mrest a_old v_thrown v_mask v_key v_wait v_problem v_code v_length v_cond v_masks v_addr v_mwanted v_wrong v_after v_calls v_oneB v_twoB v_mF v_mkF v_mrF v_oldF x0 x1 x2 x3 A) ([.ref a_mo, .int x0, .int x1, .int x2, .int x3] : List Value).toArray s 0 0 A) (F0 m 521 ls [.int m_521, .ref a_mo]) := by
            intro m_521 em_521 H locs hP hD hS ls hl
            try dsimp only at em_521
            refine va_put (D := D) (ci := 12) (v := .int m_521) (ty := .int) (C := RX12) (T := TX12) (N := 26) hx hb hts in_X12 tyX12 tyX12_ok nmX12 hown hK hP hD hS 0 rfl rfl 10 (by decide) q_6 (fun _ h9 => h9) rfl (by decide +kernel) rfl rfl (Nat.le_of_ble_eq_true rfl) dX12_edit_521 (fun H locs hP hD hS => ?_)
            have hP : va_P D vwCl (wX12_edit cI cB a_mo a_mem a_mks a_mr a_cnt a_wd a_one a_two a_mmade a_mrest a_old v_thrown v_mask v_key v_wait v_problem v_code v_length m_521 v_masks v_addr v_mwanted g_78.1 v_after v_calls v_oneB v_twoB g_78.2.1 v_mkF f_500 g_18.1) H := hP
            have hD : va_D A (wX12_edit cI cB a_mo a_mem a_mks a_mr a_cnt a_wd a_one a_two a_mmade a_mrest a_old v_thrown v_mask v_key v_wait v_problem v_code v_length m_521 v_masks v_addr v_mwanted g_78.1 v_after v_calls v_oneB v_twoB g_78.2.1 v_mkF f_500 g_18.1) := hD
            have hf9 : (m_521, g_78.1, g_78.2.1, f_500, g_18.1) = fX12_edit x0 x1 x2 x3 v_key v_cond v_wrong v_mF v_mkF v_mrF v_oldF := by subst ef_500; subst ex_70; subst ex_52; simp only [fX12_edit, ← eu_4, ← eg_18, ← eg_78, ← em_521]; (try simp only [if_pos c_11, if_pos c_458])
            exact W.vret hx hb hr (fun t9 ht9 hW9 => ⟨⟨(m_521, g_78.1, g_78.2.1, f_500, g_18.1), rfl, hf9, ⟨by rw [ht9]; exact hP, va_K.moved hW9.alike hK, hD⟩⟩, hS.F ht9⟩) hS.2.2 dX12_edit_524
          refine lv_if_ne (tgt := 511) hx hb dX12_edit_504 (by decide) (fun c_504 => ?_) (fun c_504 => ?_)
          · skip
            refine lv_iload hx hb dX12_edit_511 (lv_at hl 6 rfl) ?_
            refine lv_if_eq (tgt := 520) hx hb dX12_edit_513 (by decide) (fun c_513 => ?_) (fun c_513 => ?_)
            · skip
              refine lv_iconst (v := 2) hx hb dX12_edit_520 (by decide) ?_
              exact J_521 2 (by (try simp only [if_neg c_504, if_pos c_513])) _ _ hP hD hS ls (lv_sub hl [0, 1, 2, 3, 4, 5, 6, 7, 8, 9, 10, 11] rfl)
            · skip
              refine lv_iconst (v := 1) hx hb dX12_edit_516 (by decide) ?_
              refine lv_goto (tgt := 521) hx hb dX12_edit_517 (by decide) ?_
              exact J_521 1 (by (try simp only [if_neg c_504, if_neg c_513])) _ _ hP hD hS ls (lv_sub hl [0, 1, 2, 3, 4, 5, 6, 7, 8, 9, 10, 11] rfl)
          · skip
            refine lv_iconst (v := 0) hx hb dX12_edit_507 (by decide) ?_
            refine lv_goto (tgt := 521) hx hb dX12_edit_508 (by decide) ?_
            exact J_521 0 (by (try simp only [if_pos c_504])) _ _ hP hD hS ls (lv_sub hl [0, 1, 2, 3, 4, 5, 6, 7, 8, 9, 10, 11] rfl)
        · skip
          refine lv_iconst (v := 0) hx hb dX12_edit_461 (by decide) ?_
          refine lv_istore (lv' := [(11, .int 0), (0, .ref a_mo), (1, .int x0), (2, .int x1), (3, .int x2), (4, .int x3), (5, .int x_52), (6, .int g_78.2.2.1), (7, .int g_78.2.2.2.1), (8, .int g_78.2.2.2.2.1), (9, .int g_78.2.2.2.2.2.1), (10, .int g_78.2.2.2.2.2.2.1)]) hx hb dX12_edit_462 hl (by decide) rfl (fun ls hl => ?_)
          obtain ⟨g_464, eg_464⟩ : ∃ z : ((Nat → Int32) × Int32), z = LX12_edit_464 x1 x2 g_18 (msU x1 0 + 1) (g_78.2.1, 0) := ⟨_, rfl⟩
          have K_464_0 : ∀ (H : Heap) (locs : List Loc), va_P D vwCl (wX12_edit cI cB a_mo a_mem a_mks a_mr a_cnt a_wd a_one a_two a_mmade a_mrest a_old v_thrown v_mask v_key v_wait v_problem v_code v_length v_cond v_masks v_addr v_mwanted g_78.1 v_after v_calls v_oneB v_twoB g_464.1 v_mkF v_mrF g_18.1) H → va_D A (wX12_edit cI cB a_mo a_mem a_mks a_mr a_cnt a_wd a_one a_two a_mmade a_mrest a_old v_thrown v_mask v_key v_wait v_problem v_code v_length v_cond v_masks v_addr v_mwanted g_78.1 v_after v_calls v_oneB v_twoB g_464.1 v_mkF v_mrF g_18.1) → va_S A s.heap H locs → ∀ (ls : Array Slot), lv_has ls 18 [(0, .ref a_mo), (1, .int x0), (2, .int x1), (3, .int x2), (4, .int x3), (5, .int x_52), (6, .int g_78.2.2.1), (7, .int g_78.2.2.2.1), (8, .int g_78.2.2.2.2.1), (9, .int g_78.2.2.2.2.2.1), (10, .int g_78.2.2.2.2.2.2.1), (11, .int g_464.2)] → W p l e rmX12_edit s m ([.ref a_mo, .int x0, .int x1, .int x2, .int x3] : List Value).toArray below meth c H locs 0 0 (MQ below (qX12_edit D cI cB a_mo a_mem a_mks a_mr a_cnt a_wd a_one a_two a_mmade a_mrest a_old v_thrown v_mask v_key v_wait v_problem v_code v_length v_cond v_masks v_addr v_mwanted v_wrong v_after v_calls v_oneB v_twoB v_mF v_mkF v_mrF v_oldF x0 x1 x2 x3 A) ([.ref a_mo, .int x0, .int x1, .int x2, .int x3] : List Value).toArray s 0 0 A) (F0 m 492 ls []) := by
            intro H locs hP hD hS ls hl
            have hf9 : (v_cond, g_78.1, g_464.1, v_mrF, g_18.1) = fX12_edit x0 x1 x2 x3 v_key v_cond v_wrong v_mF v_mkF v_mrF v_oldF := by subst ex_70; subst ex_52; simp only [fX12_edit, ← eu_4, ← eg_18, ← eg_78, ← eg_464]; (try simp only [if_pos c_11, if_neg c_458])
            exact W.vret hx hb hr (fun t9 ht9 hW9 => ⟨⟨(v_cond, g_78.1, g_464.1, v_mrF, g_18.1), rfl, hf9, ⟨by rw [ht9]; exact hP, va_K.moved hW9.alike hK, hD⟩⟩, hS.F ht9⟩) hS.2.2 dX12_edit_492
          have lp_464 : ∀ (n9 : Nat) (w_464 : ((Nat → Int32) × Int32)), msU x1 w_464.2 < n9 → 0 ≤ w_464.2 → LX12_edit_464 x1 x2 g_18 n9 w_464 = g_464 → ∀ (H : Heap) (locs : List Loc), va_P D vwCl (wX12_edit cI cB a_mo a_mem a_mks a_mr a_cnt a_wd a_one a_two a_mmade a_mrest a_old v_thrown v_mask v_key v_wait v_problem v_code v_length v_cond v_masks v_addr v_mwanted g_78.1 v_after v_calls v_oneB v_twoB w_464.1 v_mkF v_mrF g_18.1) H → va_D A (wX12_edit cI cB a_mo a_mem a_mks a_mr a_cnt a_wd a_one a_two a_mmade a_mrest a_old v_thrown v_mask v_key v_wait v_problem v_code v_length v_cond v_masks v_addr v_mwanted g_78.1 v_after v_calls v_oneB v_twoB w_464.1 v_mkF v_mrF g_18.1) → va_S A s.heap H locs → ∀ (ls : Array Slot), lv_has ls 18 [(0, .ref a_mo), (1, .int x0), (2, .int x1), (3, .int x2), (4, .int x3), (5, .int x_52), (6, .int g_78.2.2.1), (7, .int g_78.2.2.2.1), (8, .int g_78.2.2.2.2.1), (9, .int g_78.2.2.2.2.2.1), (10, .int g_78.2.2.2.2.2.2.1), (11, .int w_464.2)] → W p l e rmX12_edit s m ([.ref a_mo, .int x0, .int x1, .int x2, .int x3] : List Value).toArray below meth c H locs 0 0 (MQ below (qX12_edit D cI cB a_mo a_mem a_mks a_mr a_cnt a_wd a_one a_two a_mmade a_mrest a_old v_thrown v_mask v_key v_wait v_problem v_code v_length v_cond v_masks v_addr v_mwanted v_wrong v_after v_calls v_oneB v_twoB v_mF v_mkF v_mrF v_oldF x0 x1 x2 x3 A) ([.ref a_mo, .int x0, .int x1, .int x2, .int x3] : List Value).toArray s 0 0 A) (F0 m 464 ls []) := by
            intro n9
            induction n9 with
            | zero => intro w_464 hm9; exact absurd hm9 (Nat.not_lt_zero _)
            | succ n9 ih =>
              intro w_464 hm9 hI9 hL9 H locs hP hD hS ls hl
              have hI_464 := hI9
              refine lv_iload hx hb dX12_edit_464 (lv_at hl 11 rfl) ?_
              refine lv_iload_n hx hb dX12_edit_466 rfl (lv_at hl 2 rfl) ?_
              refine lv_icmp_ge (tgt := 492) hx hb dX12_edit_467 (by decide) (fun c_467 => ?_) (fun c_467 => ?_)
              · skip
                have hg9 : (w_464.1, w_464.2) = g_464 := by rw [← hL9]; simp only [LX12_edit_464]; (try simp only [if_pos c_467])
                subst hg9
                exact K_464_0 _ _ hP hD hS ls (lv_sub hl [0, 1, 2, 3, 4, 5, 6, 7, 8, 9, 10, 11] rfl)
              · skip
                refine lv_aload_n hx hb dX12_edit_470 rfl (lv_at hl 0 rfl) ?_
                refine va_get (D := D) (ci := 12) (v := .ref a_mem) (C := RX12) (T := TX12) (N := 26) hx hb hts in_X12 hown hK hP 0 rfl rfl 1 (by decide) q_2 (fun _ h9 => h9) rfl dX12_edit_471 ?_
                refine lv_iload_n hx hb dX12_edit_474 rfl (lv_at hl 3 rfl) ?_
                refine lv_iload hx hb dX12_edit_475 (lv_at hl 11 rfl) ?_
                refine lv_iadd hx hb dX12_edit_477 ?_
                refine lv_aload_n hx hb dX12_edit_478 rfl (lv_at hl 0 rfl) ?_
                refine va_get (D := D) (ci := 12) (v := .ref a_old) (C := RX12) (T := TX12) (N := 26) hx hb hts in_X12 hown hK hP 0 rfl rfl 25 (by decide) q_1 (fun _ h9 => h9) rfl dX12_edit_479 ?_
                refine lv_iload hx hb dX12_edit_482 (lv_at hl 11 rfl) ?_
                refine va_iald hx hb hK hP 4 0 rfl rfl (vin_n (Int.le_trans hn.2 (by decide)) hI9 c_467) dX12_edit_484 ?_
                refine va_iast hx hb hK hP hD hS 1 0 rfl rfl (inM_at hIn hI9 c_467) dX12_edit_485 (fun H locs hP hD hS => ?_)
                obtain ⟨f_485, ef_485⟩ : ∃ z : Nat → Int32, z = upd w_464.1 ((x2 + w_464.2) : Int32).toNatClampNeg ((g_18.1 (w_464.2 : Int32).toNatClampNeg)) := ⟨_, rfl⟩
                have hP : va_P D vwCl (wX12_edit cI cB a_mo a_mem a_mks a_mr a_cnt a_wd a_one a_two a_mmade a_mrest a_old v_thrown v_mask v_key v_wait v_problem v_code v_length v_cond v_masks v_addr v_mwanted g_78.1 v_after v_calls v_oneB v_twoB (upd w_464.1 ((x2 + w_464.2) : Int32).toNatClampNeg ((g_18.1 (w_464.2 : Int32).toNatClampNeg))) v_mkF v_mrF g_18.1) H := hP
                have hD : va_D A (wX12_edit cI cB a_mo a_mem a_mks a_mr a_cnt a_wd a_one a_two a_mmade a_mrest a_old v_thrown v_mask v_key v_wait v_problem v_code v_length v_cond v_masks v_addr v_mwanted g_78.1 v_after v_calls v_oneB v_twoB (upd w_464.1 ((x2 + w_464.2) : Int32).toNatClampNeg ((g_18.1 (w_464.2 : Int32).toNatClampNeg))) v_mkF v_mrF g_18.1) := hD
                rw [← ef_485] at hP hD
                obtain ⟨x_486, ex_486⟩ : ∃ z : Int32, z = w_464.2 + 1 := ⟨_, rfl⟩
                refine lv_iinc (v := x_486) (lv' := [(11, .int x_486), (0, .ref a_mo), (1, .int x0), (2, .int x1), (3, .int x2), (4, .int x3), (5, .int x_52), (6, .int g_78.2.2.1), (7, .int g_78.2.2.2.1), (8, .int g_78.2.2.2.2.1), (9, .int g_78.2.2.2.2.2.1), (10, .int g_78.2.2.2.2.2.2.1)]) hx hb dX12_edit_486 hl (k := 11) rfl (by rw [ex_486]; rfl) (by decide) rfl (fun ls hl => ?_)
                refine lv_goto (tgt := 464) hx hb dX12_edit_489 (by decide) ?_
                exact ih (f_485, x_486) (by subst ex_486; subst ef_485;  exact Nat.lt_of_lt_of_le (ms_up c_467) (Nat.le_of_lt_succ hm9)) (by subst ex_486; subst ef_485;  exact nn_up hI9 c_467) (by rw [← hL9]; subst ex_486; subst ef_485; simp only [LX12_edit_464]; (try simp only [if_neg c_467])) _ _ hP hD hS ls (lv_sub hl [1, 2, 3, 4, 5, 6, 7, 8, 9, 10, 11, 0] rfl)
          exact lp_464 (msU x1 0 + 1) (g_78.2.1, 0) (Nat.lt_succ_self _) (by show (0 : Int32) ≤ 0; decide) eg_464.symm _ _ hP hD hS ls (lv_sub hl [1, 2, 3, 4, 5, 6, 7, 8, 9, 10, 11, 0] rfl)
      have lp_78 : ∀ (n9 : Nat) (w_78 : (Int32 × (Nat → Int32) × Int32 × Int32 × Int32 × Int32 × Int32 × Int32)), msU x1 w_78.2.2.2.2.2.2.2 < n9 → 0 ≤ w_78.2.2.2.2.2.2.2 → LX12_edit_78 x0 x1 x2 v_key v_mkF g_18 x_52 n9 w_78 = g_78 → ∀ (H : Heap) (locs : List Loc), va_P D vwCl (wX12_edit cI cB a_mo a_mem a_mks a_mr a_cnt a_wd a_one a_two a_mmade a_mrest a_old v_thrown v_mask v_key v_wait v_problem v_code v_length v_cond v_masks v_addr v_mwanted w_78.1 v_after v_calls v_oneB v_twoB w_78.2.1 v_mkF v_mrF g_18.1) H → va_D A (wX12_edit cI cB a_mo a_mem a_mks a_mr a_cnt a_wd a_one a_two a_mmade a_mrest a_old v_thrown v_mask v_key v_wait v_problem v_code v_length v_cond v_masks v_addr v_mwanted w_78.1 v_after v_calls v_oneB v_twoB w_78.2.1 v_mkF v_mrF g_18.1) → va_S A s.heap H locs → ∀ (ls : Array Slot), lv_has ls 18 [(0, .ref a_mo), (1, .int x0), (2, .int x1), (3, .int x2), (4, .int x3), (5, .int x_52), (6, .int w_78.2.2.1), (7, .int w_78.2.2.2.1), (8, .int w_78.2.2.2.2.1), (9, .int w_78.2.2.2.2.2.1), (10, .int w_78.2.2.2.2.2.2.1), (11, .int w_78.2.2.2.2.2.2.2)] → W p l e rmX12_edit s m ([.ref a_mo, .int x0, .int x1, .int x2, .int x3] : List Value).toArray below meth c H locs 0 0 (MQ below (qX12_edit D cI cB a_mo a_mem a_mks a_mr a_cnt a_wd a_one a_two a_mmade a_mrest a_old v_thrown v_mask v_key v_wait v_problem v_code v_length v_cond v_masks v_addr v_mwanted v_wrong v_after v_calls v_oneB v_twoB v_mF v_mkF v_mrF v_oldF x0 x1 x2 x3 A) ([.ref a_mo, .int x0, .int x1, .int x2, .int x3] : List Value).toArray s 0 0 A) (F0 m 78 ls []) := by
        intro n9
        induction n9 with
        | zero => intro w_78 hm9; exact absurd hm9 (Nat.not_lt_zero _)
        | succ n9 ih =>
          intro w_78 hm9 hI9 hL9 H locs hP hD hS ls hl
          have hI_78 := hI9
          refine lv_iload hx hb dX12_edit_78 (lv_at hl 11 rfl) ?_
          refine lv_iload_n hx hb dX12_edit_80 rfl (lv_at hl 2 rfl) ?_
          refine lv_icmp_ge (tgt := 454) hx hb dX12_edit_81 (by decide) (fun c_81 => ?_) (fun c_81 => ?_)
          · skip
            have hg9 : (w_78.1, w_78.2.1, w_78.2.2.1, w_78.2.2.2.1, w_78.2.2.2.2.1, w_78.2.2.2.2.2.1, w_78.2.2.2.2.2.2.1, w_78.2.2.2.2.2.2.2) = g_78 := by rw [← hL9]; simp only [LX12_edit_78]; (try simp only [if_pos c_81])
            subst hg9
            exact K_78_0 _ _ hP hD hS ls (lv_sub hl [0, 1, 2, 3, 4, 5, 6, 7, 8, 9, 10, 11] rfl)
          · skip
            refine lv_aload_n hx hb dX12_edit_84 rfl (lv_at hl 0 rfl) ?_
            refine va_get (D := D) (ci := 12) (v := .int w_78.1) (C := RX12) (T := TX12) (N := 26) hx hb hts in_X12 hown hK hP 0 rfl rfl 16 (by decide) q_0 (fun _ h9 => h9) rfl dX12_edit_85 ?_
            refine lv_if_ne (tgt := 454) hx hb dX12_edit_88 (by decide) (fun c_88 => ?_) (fun c_88 => ?_)
            · skip
              have hg9 : (w_78.1, w_78.2.1, w_78.2.2.1, w_78.2.2.2.1, w_78.2.2.2.2.1, w_78.2.2.2.2.2.1, w_78.2.2.2.2.2.2.1, w_78.2.2.2.2.2.2.2) = g_78 := by rw [← hL9]; simp only [LX12_edit_78]; (try simp only [if_neg c_81, if_neg c_88])
              subst hg9
              exact K_78_0 _ _ hP hD hS ls (lv_sub hl [0, 1, 2, 3, 4, 5, 6, 7, 8, 9, 10, 11] rfl)
            · skip
              refine lv_aload_n hx hb dX12_edit_91 rfl (lv_at hl 0 rfl) ?_
              refine va_get (D := D) (ci := 12) (v := .ref a_mem) (C := RX12) (T := TX12) (N := 26) hx hb hts in_X12 hown hK hP 0 rfl rfl 1 (by decide) q_2 (fun _ h9 => h9) rfl dX12_edit_92 ?_
              refine lv_iload_n hx hb dX12_edit_95 rfl (lv_at hl 3 rfl) ?_
              refine lv_iload hx hb dX12_edit_96 (lv_at hl 11 rfl) ?_
              refine lv_iadd hx hb dX12_edit_98 ?_
              refine va_iald hx hb hK hP 1 0 rfl rfl (inM_at hIn hI9 c_81) dX12_edit_99 ?_
              refine lv_topi (fun x_100 ex_100 => ?_)
              refine lv_istore (lv' := [(12, .int x_100), (0, .ref a_mo), (1, .int x0), (2, .int x1), (3, .int x2), (4, .int x3), (5, .int x_52), (6, .int w_78.2.2.1), (7, .int w_78.2.2.2.1), (8, .int w_78.2.2.2.2.1), (9, .int w_78.2.2.2.2.2.1), (10, .int w_78.2.2.2.2.2.2.1), (11, .int w_78.2.2.2.2.2.2.2)]) hx hb dX12_edit_100 hl (by decide) rfl (fun ls hl => ?_)
              refine lv_iload hx hb dX12_edit_102 (lv_at hl 0 rfl) ?_
              refine lv_bipush (v := 32) hx hb dX12_edit_104 (by decide) ?_
              have J_448 : ∀ (m_448 : (Int32 × (Nat → Int32) × Int32 × Int32 × Int32 × Int32 × Int32)), m_448 = (if x_100 = 32 then (let m_290 : (Int32 × Int32 × Int32 × Int32 × Int32 × Int32) := (if 0 ≤ w_78.2.2.2.1 then ((w_78.1, (-1), 0, 0, w_78.2.2.2.1, w_78.2.2.2.2.1)) else (let u_139 := fX12_look (w_78.2.2.2.2.1 &&& 16777215) 1 0 v_key w_78.1 v_mkF; let x_147 := (w_78.2.2.2.2.1 &&& 16777215); let m_193 : Int32 := (if u_139 ≤ 0 then (if x_147 < x2 then ((w_78.2.1 (x_147 : Int32).toNatClampNeg)) else (if (x2 + x1) ≤ x_147 then ((w_78.2.1 (x_147 : Int32).toNatClampNeg)) else ((g_18.1 ((x_147 - x2) : Int32).toNatClampNeg)))) else (0)); let x_195 := w_78.2.2.2.2.1 + 1; let x_202 := (m_193 >>> (4 &&& 31)); let x_209 := (m_193 &&& 15); let m_231 : Int32 := (if u_139 = 0 then (if x_202 ≤ 9 then (u_139) else (let u_228 := fX12_meet 7 u_139; u_228)) else (u_139)); let m_243 : Int32 := (if x_209 ≤ 9 then (0) else (1)); let m_269 : Int32 := (if m_243 = 0 then (0) else (if x_209 = 11 then (0) else (if x_209 = 13 then (0) else (1)))); let m_282 : Int32 := (if m_243 = 0 then (x_209) else ((-1))); (m_231, m_282, m_269, m_243, x_202, x_195))); let m_316 : Int32 := (if x0 = 0 then (w_78.2.2.2.2.2.1) else (if m_290.2.2.2.2.1 = 0 then (w_78.2.2.2.2.2.1) else (if w_78.2.2.1 = 0 then (let x_314 := ((w_78.2.2.2.2.2.1 &&& (-16777216 : Int32)) ||| (x2 + w_78.2.2.2.2.2.2.2)); x_314) else (w_78.2.2.2.2.2.1)))); let m_345 : Int32 := (if m_290.2.2.2.2.1 = 0 then (if w_78.2.2.1 = 0 then (x_52) else ((240 ||| m_290.2.2.2.2.1))) else ((240 ||| m_290.2.2.2.2.1))); let f_345 := upd w_78.2.1 ((x2 + w_78.2.2.2.2.2.2.2) : Int32).toNatClampNeg (m_345); let m_361 : Int32 := (if w_78.2.2.2.2.2.2.1 = 0 then (if m_290.2.2.2.2.1 = 0 then (0) else (1)) else (1)); let m_390 : Int32 := (if w_78.2.2.1 = 0 then (if x_100 = 33 then (if m_290.2.2.1 = 0 then (1) else (0)) else (if m_290.2.2.2.2.1 = 0 then (0) else (if m_290.2.2.1 = 0 then (1) else (0)))) else (if m_290.2.2.1 = 0 then (1) else (0))); (m_290.1, f_345, m_390, m_290.2.1, m_290.2.2.2.2.2, m_316, m_361)) else (if x_100 = 33 then (let m_290 : (Int32 × Int32 × Int32 × Int32 × Int32 × Int32) := (if 0 ≤ w_78.2.2.2.1 then ((w_78.1, (-1), 0, 0, w_78.2.2.2.1, w_78.2.2.2.2.1)) else (let u_139 := fX12_look (w_78.2.2.2.2.1 &&& 16777215) 1 0 v_key w_78.1 v_mkF; let x_147 := (w_78.2.2.2.2.1 &&& 16777215); let m_193 : Int32 := (if u_139 ≤ 0 then (if x_147 < x2 then ((w_78.2.1 (x_147 : Int32).toNatClampNeg)) else (if (x2 + x1) ≤ x_147 then ((w_78.2.1 (x_147 : Int32).toNatClampNeg)) else ((g_18.1 ((x_147 - x2) : Int32).toNatClampNeg)))) else (0)); let x_195 := w_78.2.2.2.2.1 + 1; let x_202 := (m_193 >>> (4 &&& 31)); let x_209 := (m_193 &&& 15); let m_231 : Int32 := (if u_139 = 0 then (if x_202 ≤ 9 then (u_139) else (let u_228 := fX12_meet 7 u_139; u_228)) else (u_139)); let m_243 : Int32 := (if x_209 ≤ 9 then (0) else (1)); let m_269 : Int32 := (if m_243 = 0 then (0) else (if x_209 = 11 then (0) else (if x_209 = 13 then (0) else (1)))); let m_282 : Int32 := (if m_243 = 0 then (x_209) else ((-1))); (m_231, m_282, m_269, m_243, x_202, x_195))); let m_316 : Int32 := (if x0 = 0 then (w_78.2.2.2.2.2.1) else (if m_290.2.2.2.2.1 = 0 then (w_78.2.2.2.2.2.1) else (if w_78.2.2.1 = 0 then (let x_314 := ((w_78.2.2.2.2.2.1 &&& (-16777216 : Int32)) ||| (x2 + w_78.2.2.2.2.2.2.2)); x_314) else (w_78.2.2.2.2.2.1)))); let m_345 : Int32 := (if m_290.2.2.2.2.1 = 0 then (if w_78.2.2.1 = 0 then (x_52) else ((240 ||| m_290.2.2.2.2.1))) else ((240 ||| m_290.2.2.2.2.1))); let f_345 := upd w_78.2.1 ((x2 + w_78.2.2.2.2.2.2.2) : Int32).toNatClampNeg (m_345); let m_361 : Int32 := (if w_78.2.2.2.2.2.2.1 = 0 then (if m_290.2.2.2.2.1 = 0 then (0) else (1)) else (1)); let m_390 : Int32 := (if w_78.2.2.1 = 0 then (if m_290.2.2.1 = 0 then (1) else (0)) else (if m_290.2.2.1 = 0 then (1) else (0))); (m_290.1, f_345, m_390, m_290.2.1, m_290.2.2.2.2.2, m_316, m_361)) else (if x_100 = 34 then (let f_412 := upd w_78.2.1 ((x2 + w_78.2.2.2.2.2.2.2) : Int32).toNatClampNeg (x_52); (w_78.1, f_412, 0, w_78.2.2.2.1, w_78.2.2.2.2.1, w_78.2.2.2.2.2.1, 0)) else (let m_447 : Int32 := (if w_78.2.2.1 = 0 then (if w_78.2.2.2.2.2.2.2 = 0 then (x_100) else (x_52)) else (x_100)); let f_447 := upd w_78.2.1 ((x2 + w_78.2.2.2.2.2.2.2) : Int32).toNatClampNeg (m_447); (w_78.1, f_447, w_78.2.2.1, w_78.2.2.2.1, w_78.2.2.2.2.1, w_78.2.2.2.2.2.1, w_78.2.2.2.2.2.2.1)))) : (Int32 × (Nat → Int32) × Int32 × Int32 × Int32 × Int32 × Int32)) → ∀ (H : Heap) (locs : List Loc), va_P D vwCl (wX12_edit cI cB a_mo a_mem a_mks a_mr a_cnt a_wd a_one a_two a_mmade a_mrest a_old v_thrown v_mask v_key v_wait v_problem v_code v_length v_cond v_masks v_addr v_mwanted m_448.1 v_after v_calls v_oneB v_twoB m_448.2.1 v_mkF v_mrF g_18.1) H → va_D A (wX12_edit cI cB a_mo a_mem a_mks a_mr a_cnt a_wd a_one a_two a_mmade a_mrest a_old v_thrown v_mask v_key v_wait v_problem v_code v_length v_cond v_masks v_addr v_mwanted m_448.1 v_after v_calls v_oneB v_twoB m_448.2.1 v_mkF v_mrF g_18.1) → va_S A s.heap H locs → ∀ (ls : Array Slot), lv_has ls 18 [(0, .ref a_mo), (1, .int x0), (2, .int x1), (3, .int x2), (4, .int x3), (5, .int x_52), (6, .int m_448.2.2.1), (7, .int m_448.2.2.2.1), (8, .int m_448.2.2.2.2.1), (9, .int m_448.2.2.2.2.2.1), (10, .int m_448.2.2.2.2.2.2), (11, .int w_78.2.2.2.2.2.2.2), (12, .int x_100)] → W p l e rmX12_edit s m ([.ref a_mo, .int x0, .int x1, .int x2, .int x3] : List Value).toArray below meth c H locs 0 0 (MQ below (qX12_edit D cI cB a_mo a_mem a_mks a_mr a_cnt a_wd a_one a_two a_mmade a_mrest a_old v_thrown v_mask v_key v_wait v_problem v_code v_length v_cond v_masks v_addr v_mwanted v_wrong v_after v_calls v_oneB v_twoB v_mF v_mkF v_mrF v_oldF x0 x1 x2 x3 A) ([.ref a_mo, .int x0, .int x1, .int x2, .int x3] : List Value).toArray s 0 0 A) (F0 m 448 ls []) := by
                intro m_448 em_448 H locs hP hD hS ls hl
                try dsimp only at em_448
                obtain ⟨x_448, ex_448⟩ : ∃ z : Int32, z = w_78.2.2.2.2.2.2.2 + 1 := ⟨_, rfl⟩
                refine lv_iinc (v := x_448) (lv' := [(11, .int x_448), (0, .ref a_mo), (1, .int x0), (2, .int x1), (3, .int x2), (4, .int x3), (5, .int x_52), (6, .int m_448.2.2.1), (7, .int m_448.2.2.2.1), (8, .int m_448.2.2.2.2.1), (9, .int m_448.2.2.2.2.2.1), (10, .int m_448.2.2.2.2.2.2), (12, .int x_100)]) hx hb dX12_edit_448 hl (k := 11) rfl (by rw [ex_448]; rfl) (by decide) rfl (fun ls hl => ?_)
                refine lv_goto (tgt := 78) hx hb dX12_edit_451 (by decide) ?_
                exact ih (m_448.1, m_448.2.1, m_448.2.2.1, m_448.2.2.2.1, m_448.2.2.2.2.1, m_448.2.2.2.2.2.1, m_448.2.2.2.2.2.2, x_448) (by subst ex_448; subst em_448; subst ex_100;  exact Nat.lt_of_lt_of_le (ms_up c_81) (Nat.le_of_lt_succ hm9)) (by subst ex_448; subst em_448; subst ex_100;  exact nn_up hI9 c_81) (by rw [← hL9]; subst ex_448; subst ex_100; simp only [LX12_edit_78, ← em_448]; (try simp only [if_neg c_81, if_pos c_88])) _ _ hP hD hS ls (lv_sub hl [1, 2, 3, 4, 5, 6, 7, 8, 9, 10, 11, 0] rfl)
              refine lv_icmp_eq (tgt := 116) hx hb dX12_edit_106 (by decide) (fun c_106 => ?_) (fun c_106 => ?_)
              · skip
                refine lv_iload hx hb dX12_edit_116 (lv_at hl 8 rfl) ?_
                refine lv_istore (lv' := [(13, .int w_78.2.2.2.1), (12, .int x_100), (0, .ref a_mo), (1, .int x0), (2, .int x1), (3, .int x2), (4, .int x3), (5, .int x_52), (6, .int w_78.2.2.1), (7, .int w_78.2.2.2.1), (8, .int w_78.2.2.2.2.1), (9, .int w_78.2.2.2.2.2.1), (10, .int w_78.2.2.2.2.2.2.1), (11, .int w_78.2.2.2.2.2.2.2)]) hx hb dX12_edit_118 hl (by decide) rfl (fun ls hl => ?_)
                refine lv_iconst (v := 0) hx hb dX12_edit_120 (by decide) ?_
                refine lv_istore (lv' := [(14, .int 0), (13, .int w_78.2.2.2.1), (12, .int x_100), (0, .ref a_mo), (1, .int x0), (2, .int x1), (3, .int x2), (4, .int x3), (5, .int x_52), (6, .int w_78.2.2.1), (7, .int w_78.2.2.2.1), (8, .int w_78.2.2.2.2.1), (9, .int w_78.2.2.2.2.2.1), (10, .int w_78.2.2.2.2.2.2.1), (11, .int w_78.2.2.2.2.2.2.2)]) hx hb dX12_edit_121 hl (by decide) rfl (fun ls hl => ?_)
                refine lv_iconst (v := 0) hx hb dX12_edit_123 (by decide) ?_
                refine lv_istore (lv' := [(15, .int 0), (14, .int 0), (13, .int w_78.2.2.2.1), (12, .int x_100), (0, .ref a_mo), (1, .int x0), (2, .int x1), (3, .int x2), (4, .int x3), (5, .int x_52), (6, .int w_78.2.2.1), (7, .int w_78.2.2.2.1), (8, .int w_78.2.2.2.2.1), (9, .int w_78.2.2.2.2.2.1), (10, .int w_78.2.2.2.2.2.2.1), (11, .int w_78.2.2.2.2.2.2.2)]) hx hb dX12_edit_124 hl (by decide) rfl (fun ls hl => ?_)
                refine lv_iload hx hb dX12_edit_126 (lv_at hl 11 rfl) ?_
                have J_290 : ∀ (m_290 : (Int32 × Int32 × Int32 × Int32 × Int32 × Int32)), m_290 = (if 0 ≤ w_78.2.2.2.1 then ((w_78.1, (-1), 0, 0, w_78.2.2.2.1, w_78.2.2.2.2.1)) else (let u_139 := fX12_look (w_78.2.2.2.2.1 &&& 16777215) 1 0 v_key w_78.1 v_mkF; let x_147 := (w_78.2.2.2.2.1 &&& 16777215); let m_193 : Int32 := (if u_139 ≤ 0 then (if x_147 < x2 then ((w_78.2.1 (x_147 : Int32).toNatClampNeg)) else (if (x2 + x1) ≤ x_147 then ((w_78.2.1 (x_147 : Int32).toNatClampNeg)) else ((g_18.1 ((x_147 - x2) : Int32).toNatClampNeg)))) else (0)); let x_195 := w_78.2.2.2.2.1 + 1; let x_202 := (m_193 >>> (4 &&& 31)); let x_209 := (m_193 &&& 15); let m_231 : Int32 := (if u_139 = 0 then (if x_202 ≤ 9 then (u_139) else (let u_228 := fX12_meet 7 u_139; u_228)) else (u_139)); let m_243 : Int32 := (if x_209 ≤ 9 then (0) else (1)); let m_269 : Int32 := (if m_243 = 0 then (0) else (if x_209 = 11 then (0) else (if x_209 = 13 then (0) else (1)))); let m_282 : Int32 := (if m_243 = 0 then (x_209) else ((-1))); (m_231, m_282, m_269, m_243, x_202, x_195)) : (Int32 × Int32 × Int32 × Int32 × Int32 × Int32)) → ∀ (H : Heap) (locs : List Loc), va_P D vwCl (wX12_edit cI cB a_mo a_mem a_mks a_mr a_cnt a_wd a_one a_two a_mmade a_mrest a_old v_thrown v_mask v_key v_wait v_problem v_code v_length v_cond v_masks v_addr v_mwanted m_290.1 v_after v_calls v_oneB v_twoB w_78.2.1 v_mkF v_mrF g_18.1) H → va_D A (wX12_edit cI cB a_mo a_mem a_mks a_mr a_cnt a_wd a_one a_two a_mmade a_mrest a_old v_thrown v_mask v_key v_wait v_problem v_code v_length v_cond v_masks v_addr v_mwanted m_290.1 v_after v_calls v_oneB v_twoB w_78.2.1 v_mkF v_mrF g_18.1) → va_S A s.heap H locs → ∀ (ls : Array Slot), lv_has ls 18 [(0, .ref a_mo), (1, .int x0), (2, .int x1), (3, .int x2), (4, .int x3), (5, .int x_52), (6, .int w_78.2.2.1), (7, .int m_290.2.1), (8, .int m_290.2.2.2.2.2), (9, .int w_78.2.2.2.2.2.1), (10, .int w_78.2.2.2.2.2.2.1), (11, .int w_78.2.2.2.2.2.2.2), (12, .int x_100), (13, .int m_290.2.2.2.2.1), (14, .int m_290.2.2.2.1), (15, .int m_290.2.2.1)] → W p l e rmX12_edit s m ([.ref a_mo, .int x0, .int x1, .int x2, .int x3] : List Value).toArray below meth c H locs 0 0 (MQ below (qX12_edit D cI cB a_mo a_mem a_mks a_mr a_cnt a_wd a_one a_two a_mmade a_mrest a_old v_thrown v_mask v_key v_wait v_problem v_code v_length v_cond v_masks v_addr v_mwanted v_wrong v_after v_calls v_oneB v_twoB v_mF v_mkF v_mrF v_oldF x0 x1 x2 x3 A) ([.ref a_mo, .int x0, .int x1, .int x2, .int x3] : List Value).toArray s 0 0 A) (F0 m 290 ls []) := by
                  intro m_290 em_290 H locs hP hD hS ls hl
                  try dsimp only at em_290
                  refine lv_iload_n hx hb dX12_edit_290 rfl (lv_at hl 1 rfl) ?_
                  have J_316 : ∀ (m_316 : Int32), m_316 = (if x0 = 0 then (w_78.2.2.2.2.2.1) else (if m_290.2.2.2.2.1 = 0 then (w_78.2.2.2.2.2.1) else (if w_78.2.2.1 = 0 then (let x_314 := ((w_78.2.2.2.2.2.1 &&& (-16777216 : Int32)) ||| (x2 + w_78.2.2.2.2.2.2.2)); x_314) else (w_78.2.2.2.2.2.1)))) → ∀ (H : Heap) (locs : List Loc), va_P D vwCl (wX12_edit cI cB a_mo a_mem a_mks a_mr a_cnt a_wd a_one a_two a_mmade a_mrest a_old v_thrown v_mask v_key v_wait v_problem v_code v_length v_cond v_masks v_addr v_mwanted m_290.1 v_after v_calls v_oneB v_twoB w_78.2.1 v_mkF v_mrF g_18.1) H → va_D A (wX12_edit cI cB a_mo a_mem a_mks a_mr a_cnt a_wd a_one a_two a_mmade a_mrest a_old v_thrown v_mask v_key v_wait v_problem v_code v_length v_cond v_masks v_addr v_mwanted m_290.1 v_after v_calls v_oneB v_twoB w_78.2.1 v_mkF v_mrF g_18.1) → va_S A s.heap H locs → ∀ (ls : Array Slot), lv_has ls 18 [(0, .ref a_mo), (1, .int x0), (2, .int x1), (3, .int x2), (4, .int x3), (5, .int x_52), (6, .int w_78.2.2.1), (7, .int m_290.2.1), (8, .int m_290.2.2.2.2.2), (9, .int m_316), (10, .int w_78.2.2.2.2.2.2.1), (11, .int w_78.2.2.2.2.2.2.2), (12, .int x_100), (13, .int m_290.2.2.2.2.1), (14, .int m_290.2.2.2.1), (15, .int m_290.2.2.1)] → W p l e rmX12_edit s m ([.ref a_mo, .int x0, .int x1, .int x2, .int x3] : List Value).toArray below meth c H locs 0 0 (MQ below (qX12_edit D cI cB a_mo a_mem a_mks a_mr a_cnt a_wd a_one a_two a_mmade a_mrest a_old v_thrown v_mask v_key v_wait v_problem v_code v_length v_cond v_masks v_addr v_mwanted v_wrong v_after v_calls v_oneB v_twoB v_mF v_mkF v_mrF v_oldF x0 x1 x2 x3 A) ([.ref a_mo, .int x0, .int x1, .int x2, .int x3] : List Value).toArray s 0 0 A) (F0 m 316 ls []) := by
                    intro m_316 em_316 H locs hP hD hS ls hl
                    try dsimp only at em_316
                    refine lv_aload_n hx hb dX12_edit_316 rfl (lv_at hl 0 rfl) ?_
                    refine va_get (D := D) (ci := 12) (v := .ref a_mem) (C := RX12) (T := TX12) (N := 26) hx hb hts in_X12 hown hK hP 0 rfl rfl 1 (by decide) q_2 (fun _ h9 => h9) rfl dX12_edit_317 ?_
                    refine lv_iload_n hx hb dX12_edit_320 rfl (lv_at hl 3 rfl) ?_
                    refine lv_iload hx hb dX12_edit_321 (lv_at hl 11 rfl) ?_
                    refine lv_iadd hx hb dX12_edit_323 ?_
                    refine lv_iload hx hb dX12_edit_324 (lv_at hl 13 rfl) ?_
                    have J_345 : ∀ (m_345 : Int32), m_345 = (if m_290.2.2.2.2.1 = 0 then (if w_78.2.2.1 = 0 then (x_52) else ((240 ||| m_290.2.2.2.2.1))) else ((240 ||| m_290.2.2.2.2.1))) → ∀ (H : Heap) (locs : List Loc), va_P D vwCl (wX12_edit cI cB a_mo a_mem a_mks a_mr a_cnt a_wd a_one a_two a_mmade a_mrest a_old v_thrown v_mask v_key v_wait v_problem v_code v_length v_cond v_masks v_addr v_mwanted m_290.1 v_after v_calls v_oneB v_twoB w_78.2.1 v_mkF v_mrF g_18.1) H → va_D A (wX12_edit cI cB a_mo a_mem a_mks a_mr a_cnt a_wd a_one a_two a_mmade a_mrest a_old v_thrown v_mask v_key v_wait v_problem v_code v_length v_cond v_masks v_addr v_mwanted m_290.1 v_after v_calls v_oneB v_twoB w_78.2.1 v_mkF v_mrF g_18.1) → va_S A s.heap H locs → ∀ (ls : Array Slot), lv_has ls 18 [(0, .ref a_mo), (1, .int x0), (2, .int x1), (3, .int x2), (4, .int x3), (5, .int x_52), (6, .int w_78.2.2.1), (7, .int m_290.2.1), (8, .int m_290.2.2.2.2.2), (9, .int m_316), (10, .int w_78.2.2.2.2.2.2.1), (11, .int w_78.2.2.2.2.2.2.2), (12, .int x_100), (13, .int m_290.2.2.2.2.1), (14, .int m_290.2.2.2.1), (15, .int m_290.2.2.1)] → W p l e rmX12_edit s m ([.ref a_mo, .int x0, .int x1, .int x2, .int x3] : List Value).toArray below meth c H locs 0 0 (MQ below (qX12_edit D cI cB a_mo a_mem a_mks a_mr a_cnt a_wd a_one a_two a_mmade a_mrest a_old v_thrown v_mask v_key v_wait v_problem v_code v_length v_cond v_masks v_addr v_mwanted v_wrong v_after v_calls v_oneB v_twoB v_mF v_mkF v_mrF v_oldF x0 x1 x2 x3 A) ([.ref a_mo, .int x0, .int x1, .int x2, .int x3] : List Value).toArray s 0 0 A) (F0 m 345 ls [.int m_345, .int (x2 + w_78.2.2.2.2.2.2.2), .ref a_mem]) := by
                      intro m_345 em_345 H locs hP hD hS ls hl
                      try dsimp only at em_345
                      refine va_iast hx hb hK hP hD hS 1 0 rfl rfl (inM_at hIn hI9 c_81) dX12_edit_345 (fun H locs hP hD hS => ?_)
                      obtain ⟨f_345, ef_345⟩ : ∃ z : Nat → Int32, z = upd w_78.2.1 ((x2 + w_78.2.2.2.2.2.2.2) : Int32).toNatClampNeg (m_345) := ⟨_, rfl⟩
                      have hP : va_P D vwCl (wX12_edit cI cB a_mo a_mem a_mks a_mr a_cnt a_wd a_one a_two a_mmade a_mrest a_old v_thrown v_mask v_key v_wait v_problem v_code v_length v_cond v_masks v_addr v_mwanted m_290.1 v_after v_calls v_oneB v_twoB (upd w_78.2.1 ((x2 + w_78.2.2.2.2.2.2.2) : Int32).toNatClampNeg (m_345)) v_mkF v_mrF g_18.1) H := hP
                      have hD : va_D A (wX12_edit cI cB a_mo a_mem a_mks a_mr a_cnt a_wd a_one a_two a_mmade a_mrest a_old v_thrown v_mask v_key v_wait v_problem v_code v_length v_cond v_masks v_addr v_mwanted m_290.1 v_after v_calls v_oneB v_twoB (upd w_78.2.1 ((x2 + w_78.2.2.2.2.2.2.2) : Int32).toNatClampNeg (m_345)) v_mkF v_mrF g_18.1) := hD
                      rw [← ef_345] at hP hD
                      refine lv_iload hx hb dX12_edit_346 (lv_at hl 10 rfl) ?_
                      have J_361 : ∀ (m_361 : Int32), m_361 = (if w_78.2.2.2.2.2.2.1 = 0 then (if m_290.2.2.2.2.1 = 0 then (0) else (1)) else (1)) → ∀ (H : Heap) (locs : List Loc), va_P D vwCl (wX12_edit cI cB a_mo a_mem a_mks a_mr a_cnt a_wd a_one a_two a_mmade a_mrest a_old v_thrown v_mask v_key v_wait v_problem v_code v_length v_cond v_masks v_addr v_mwanted m_290.1 v_after v_calls v_oneB v_twoB f_345 v_mkF v_mrF g_18.1) H → va_D A (wX12_edit cI cB a_mo a_mem a_mks a_mr a_cnt a_wd a_one a_two a_mmade a_mrest a_old v_thrown v_mask v_key v_wait v_problem v_code v_length v_cond v_masks v_addr v_mwanted m_290.1 v_after v_calls v_oneB v_twoB f_345 v_mkF v_mrF g_18.1) → va_S A s.heap H locs → ∀ (ls : Array Slot), lv_has ls 18 [(0, .ref a_mo), (1, .int x0), (2, .int x1), (3, .int x2), (4, .int x3), (5, .int x_52), (6, .int w_78.2.2.1), (7, .int m_290.2.1), (8, .int m_290.2.2.2.2.2), (9, .int m_316), (10, .int w_78.2.2.2.2.2.2.1), (11, .int w_78.2.2.2.2.2.2.2), (12, .int x_100), (13, .int m_290.2.2.2.2.1), (14, .int m_290.2.2.2.1), (15, .int m_290.2.2.1)] → W p l e rmX12_edit s m ([.ref a_mo, .int x0, .int x1, .int x2, .int x3] : List Value).toArray below meth c H locs 0 0 (MQ below (qX12_edit D cI cB a_mo a_mem a_mks a_mr a_cnt a_wd a_one a_two a_mmade a_mrest a_old v_thrown v_mask v_key v_wait v_problem v_code v_length v_cond v_masks v_addr v_mwanted v_wrong v_after v_calls v_oneB v_twoB v_mF v_mkF v_mrF v_oldF x0 x1 x2 x3 A) ([.ref a_mo, .int x0, .int x1, .int x2, .int x3] : List Value).toArray s 0 0 A) (F0 m 361 ls [.int m_361]) := by
                        intro m_361 em_361 H locs hP hD hS ls hl
                        try dsimp only at em_361
                        have zm_361_0 : m_361 = 0 ∨ m_361 = 1 := by rw [em_361]; (try dsimp only); (repeat' split) <;> first | exact Or.inl rfl | exact Or.inr rfl
                        refine lv_istore (lv' := [(10, .int m_361), (0, .ref a_mo), (1, .int x0), (2, .int x1), (3, .int x2), (4, .int x3), (5, .int x_52), (6, .int w_78.2.2.1), (7, .int m_290.2.1), (8, .int m_290.2.2.2.2.2), (9, .int m_316), (11, .int w_78.2.2.2.2.2.2.2), (12, .int x_100), (13, .int m_290.2.2.2.2.1), (14, .int m_290.2.2.2.1), (15, .int m_290.2.2.1)]) hx hb dX12_edit_361 hl (by decide) rfl (fun ls hl => ?_)
                        refine lv_iload hx hb dX12_edit_363 (lv_at hl 7 rfl) ?_
                        have J_390 : ∀ (m_390 : Int32), m_390 = (if w_78.2.2.1 = 0 then (if x_100 = 33 then (if m_290.2.2.1 = 0 then (1) else (0)) else (if m_290.2.2.2.2.1 = 0 then (0) else (if m_290.2.2.1 = 0 then (1) else (0)))) else (if m_290.2.2.1 = 0 then (1) else (0))) → ∀ (H : Heap) (locs : List Loc), va_P D vwCl (wX12_edit cI cB a_mo a_mem a_mks a_mr a_cnt a_wd a_one a_two a_mmade a_mrest a_old v_thrown v_mask v_key v_wait v_problem v_code v_length v_cond v_masks v_addr v_mwanted m_290.1 v_after v_calls v_oneB v_twoB f_345 v_mkF v_mrF g_18.1) H → va_D A (wX12_edit cI cB a_mo a_mem a_mks a_mr a_cnt a_wd a_one a_two a_mmade a_mrest a_old v_thrown v_mask v_key v_wait v_problem v_code v_length v_cond v_masks v_addr v_mwanted m_290.1 v_after v_calls v_oneB v_twoB f_345 v_mkF v_mrF g_18.1) → va_S A s.heap H locs → ∀ (ls : Array Slot), lv_has ls 18 [(0, .ref a_mo), (1, .int x0), (2, .int x1), (3, .int x2), (4, .int x3), (5, .int x_52), (6, .int w_78.2.2.1), (7, .int m_290.2.1), (8, .int m_290.2.2.2.2.2), (9, .int m_316), (10, .int m_361), (11, .int w_78.2.2.2.2.2.2.2), (12, .int x_100), (13, .int m_290.2.2.2.2.1), (14, .int m_290.2.2.2.1), (15, .int m_290.2.2.1)] → W p l e rmX12_edit s m ([.ref a_mo, .int x0, .int x1, .int x2, .int x3] : List Value).toArray below meth c H locs 0 0 (MQ below (qX12_edit D cI cB a_mo a_mem a_mks a_mr a_cnt a_wd a_one a_two a_mmade a_mrest a_old v_thrown v_mask v_key v_wait v_problem v_code v_length v_cond v_masks v_addr v_mwanted v_wrong v_after v_calls v_oneB v_twoB v_mF v_mkF v_mrF v_oldF x0 x1 x2 x3 A) ([.ref a_mo, .int x0, .int x1, .int x2, .int x3] : List Value).toArray s 0 0 A) (F0 m 390 ls [.int m_390]) := by
                          intro m_390 em_390 H locs hP hD hS ls hl
                          try dsimp only at em_390
                          have zm_390_0 : m_390 = 0 ∨ m_390 = 1 := by rw [em_390]; (try dsimp only); (repeat' split) <;> first | exact Or.inl rfl | exact Or.inr rfl
                          refine lv_istore (lv' := [(6, .int m_390), (0, .ref a_mo), (1, .int x0), (2, .int x1), (3, .int x2), (4, .int x3), (5, .int x_52), (7, .int m_290.2.1), (8, .int m_290.2.2.2.2.2), (9, .int m_316), (10, .int m_361), (11, .int w_78.2.2.2.2.2.2.2), (12, .int x_100), (13, .int m_290.2.2.2.2.1), (14, .int m_290.2.2.2.1), (15, .int m_290.2.2.1)]) hx hb dX12_edit_390 hl (by decide) rfl (fun ls hl => ?_)
                          refine lv_goto (tgt := 448) hx hb dX12_edit_392 (by decide) ?_
                          exact J_448 (m_290.1, f_345, m_390, m_290.2.1, m_290.2.2.2.2.2, m_316, m_361) (by subst ef_345; (try simp only [← em_290, ← em_316, ← em_345, ← em_361, ← em_390]); (try simp only [if_pos c_106])) _ _ hP hD hS ls (lv_sub hl [1, 2, 3, 4, 5, 6, 0, 7, 8, 9, 10, 11, 12] rfl)
                        refine lv_if_ne (tgt := 380) hx hb dX12_edit_365 (by decide) (fun c_365 => ?_) (fun c_365 => ?_)
                        · skip
                          refine lv_iload hx hb dX12_edit_380 (lv_at hl 15 rfl) ?_
                          refine lv_if_ne (tgt := 389) hx hb dX12_edit_382 (by decide) (fun c_382 => ?_) (fun c_382 => ?_)
                          · skip
                            refine lv_iconst (v := 0) hx hb dX12_edit_389 (by decide) ?_
                            exact J_390 0 (by (try simp only [if_neg c_365, if_neg c_382])) _ _ hP hD hS ls (lv_sub hl [1, 2, 3, 4, 5, 6, 7, 8, 9, 10, 0, 11, 12, 13, 14, 15] rfl)
                          · skip
                            refine lv_iconst (v := 1) hx hb dX12_edit_385 (by decide) ?_
                            refine lv_goto (tgt := 390) hx hb dX12_edit_386 (by decide) ?_
                            exact J_390 1 (by (try simp only [if_neg c_365, if_pos c_382])) _ _ hP hD hS ls (lv_sub hl [1, 2, 3, 4, 5, 6, 7, 8, 9, 10, 0, 11, 12, 13, 14, 15] rfl)
                        · skip
                          refine lv_iload hx hb dX12_edit_368 (lv_at hl 12 rfl) ?_
                          refine lv_bipush (v := 33) hx hb dX12_edit_370 (by decide) ?_
                          refine lv_icmp_eq (tgt := 380) hx hb dX12_edit_372 (by decide) (fun c_372 => ?_) (fun c_372 => ?_)
                          · skip
                            refine lv_iload hx hb dX12_edit_380 (lv_at hl 15 rfl) ?_
                            refine lv_if_ne (tgt := 389) hx hb dX12_edit_382 (by decide) (fun c_382 => ?_) (fun c_382 => ?_)
                            · skip
                              refine lv_iconst (v := 0) hx hb dX12_edit_389 (by decide) ?_
                              exact J_390 0 (by (try simp only [if_pos c_365, if_pos c_372, if_neg c_382])) _ _ hP hD hS ls (lv_sub hl [1, 2, 3, 4, 5, 6, 7, 8, 9, 10, 0, 11, 12, 13, 14, 15] rfl)
                            · skip
                              refine lv_iconst (v := 1) hx hb dX12_edit_385 (by decide) ?_
                              refine lv_goto (tgt := 390) hx hb dX12_edit_386 (by decide) ?_
                              exact J_390 1 (by (try simp only [if_pos c_365, if_pos c_372, if_pos c_382])) _ _ hP hD hS ls (lv_sub hl [1, 2, 3, 4, 5, 6, 7, 8, 9, 10, 0, 11, 12, 13, 14, 15] rfl)
                          · skip
                            refine lv_iload hx hb dX12_edit_375 (lv_at hl 13 rfl) ?_
                            refine lv_if_eq (tgt := 389) hx hb dX12_edit_377 (by decide) (fun c_377 => ?_) (fun c_377 => ?_)
                            · skip
                              refine lv_iconst (v := 0) hx hb dX12_edit_389 (by decide) ?_
                              exact J_390 0 (by (try simp only [if_pos c_365, if_neg c_372, if_pos c_377])) _ _ hP hD hS ls (lv_sub hl [1, 2, 3, 4, 5, 6, 7, 8, 9, 10, 0, 11, 12, 13, 14, 15] rfl)
                            · skip
                              refine lv_iload hx hb dX12_edit_380 (lv_at hl 15 rfl) ?_
                              refine lv_if_ne (tgt := 389) hx hb dX12_edit_382 (by decide) (fun c_382 => ?_) (fun c_382 => ?_)
                              · skip
                                refine lv_iconst (v := 0) hx hb dX12_edit_389 (by decide) ?_
                                exact J_390 0 (by (try simp only [if_pos c_365, if_neg c_372, if_neg c_377, if_neg c_382])) _ _ hP hD hS ls (lv_sub hl [1, 2, 3, 4, 5, 6, 7, 8, 9, 10, 0, 11, 12, 13, 14, 15] rfl)
                              · skip
                                refine lv_iconst (v := 1) hx hb dX12_edit_385 (by decide) ?_
                                refine lv_goto (tgt := 390) hx hb dX12_edit_386 (by decide) ?_
                                exact J_390 1 (by (try simp only [if_pos c_365, if_neg c_372, if_neg c_377, if_pos c_382])) _ _ hP hD hS ls (lv_sub hl [1, 2, 3, 4, 5, 6, 7, 8, 9, 10, 0, 11, 12, 13, 14, 15] rfl)
                      refine lv_if_ne (tgt := 356) hx hb dX12_edit_348 (by decide) (fun c_348 => ?_) (fun c_348 => ?_)
                      · skip
                        refine lv_iconst (v := 1) hx hb dX12_edit_356 (by decide) ?_
                        refine lv_goto (tgt := 361) hx hb dX12_edit_357 (by decide) ?_
                        exact J_361 1 (by (try simp only [if_neg c_348])) _ _ hP hD hS ls (lv_sub hl [0, 1, 2, 3, 4, 5, 6, 7, 8, 9, 10, 11, 12, 13, 14, 15] rfl)
                      · skip
                        refine lv_iload hx hb dX12_edit_351 (lv_at hl 13 rfl) ?_
                        refine lv_if_eq (tgt := 360) hx hb dX12_edit_353 (by decide) (fun c_353 => ?_) (fun c_353 => ?_)
                        · skip
                          refine lv_iconst (v := 0) hx hb dX12_edit_360 (by decide) ?_
                          exact J_361 0 (by (try simp only [if_pos c_348, if_pos c_353])) _ _ hP hD hS ls (lv_sub hl [0, 1, 2, 3, 4, 5, 6, 7, 8, 9, 10, 11, 12, 13, 14, 15] rfl)
                        · skip
                          refine lv_iconst (v := 1) hx hb dX12_edit_356 (by decide) ?_
                          refine lv_goto (tgt := 361) hx hb dX12_edit_357 (by decide) ?_
                          exact J_361 1 (by (try simp only [if_pos c_348, if_neg c_353])) _ _ hP hD hS ls (lv_sub hl [0, 1, 2, 3, 4, 5, 6, 7, 8, 9, 10, 11, 12, 13, 14, 15] rfl)
                    refine lv_if_ne (tgt := 334) hx hb dX12_edit_326 (by decide) (fun c_326 => ?_) (fun c_326 => ?_)
                    · skip
                      refine lv_sipush (v := 240) hx hb dX12_edit_334 (by decide) ?_
                      refine lv_iload hx hb dX12_edit_337 (lv_at hl 13 rfl) ?_
                      refine lv_ior hx hb dX12_edit_339 ?_
                      refine lv_goto (tgt := 345) hx hb dX12_edit_340 (by decide) ?_
                      exact J_345 (240 ||| m_290.2.2.2.2.1) (by (try simp only [if_neg c_326])) _ _ hP hD hS ls (lv_sub hl [0, 1, 2, 3, 4, 5, 6, 7, 8, 9, 10, 11, 12, 13, 14, 15] rfl)
                    · skip
                      refine lv_iload hx hb dX12_edit_329 (lv_at hl 6 rfl) ?_
                      refine lv_if_eq (tgt := 343) hx hb dX12_edit_331 (by decide) (fun c_331 => ?_) (fun c_331 => ?_)
                      · skip
                        refine lv_iload hx hb dX12_edit_343 (lv_at hl 5 rfl) ?_
                        exact J_345 x_52 (by (try simp only [if_pos c_326, if_pos c_331])) _ _ hP hD hS ls (lv_sub hl [0, 1, 2, 3, 4, 5, 6, 7, 8, 9, 10, 11, 12, 13, 14, 15] rfl)
                      · skip
                        refine lv_sipush (v := 240) hx hb dX12_edit_334 (by decide) ?_
                        refine lv_iload hx hb dX12_edit_337 (lv_at hl 13 rfl) ?_
                        refine lv_ior hx hb dX12_edit_339 ?_
                        refine lv_goto (tgt := 345) hx hb dX12_edit_340 (by decide) ?_
                        exact J_345 (240 ||| m_290.2.2.2.2.1) (by (try simp only [if_pos c_326, if_neg c_331])) _ _ hP hD hS ls (lv_sub hl [0, 1, 2, 3, 4, 5, 6, 7, 8, 9, 10, 11, 12, 13, 14, 15] rfl)
                  refine lv_if_eq (tgt := 316) hx hb dX12_edit_291 (by decide) (fun c_291 => ?_) (fun c_291 => ?_)
                  · skip
                    exact J_316 w_78.2.2.2.2.2.1 (by (try simp only [if_pos c_291])) _ _ hP hD hS ls (lv_sub hl [0, 1, 2, 3, 4, 5, 6, 7, 8, 9, 10, 11, 12, 13, 14, 15] rfl)
                  · skip
                    refine lv_iload hx hb dX12_edit_294 (lv_at hl 13 rfl) ?_
                    refine lv_if_eq (tgt := 316) hx hb dX12_edit_296 (by decide) (fun c_296 => ?_) (fun c_296 => ?_)
                    · skip
                      exact J_316 w_78.2.2.2.2.2.1 (by (try simp only [if_neg c_291, if_pos c_296])) _ _ hP hD hS ls (lv_sub hl [0, 1, 2, 3, 4, 5, 6, 7, 8, 9, 10, 11, 12, 13, 14, 15] rfl)
                    · skip
                      refine lv_iload hx hb dX12_edit_299 (lv_at hl 6 rfl) ?_
                      refine lv_if_ne (tgt := 316) hx hb dX12_edit_301 (by decide) (fun c_301 => ?_) (fun c_301 => ?_)
                      · skip
                        exact J_316 w_78.2.2.2.2.2.1 (by (try simp only [if_neg c_291, if_neg c_296, if_neg c_301])) _ _ hP hD hS ls (lv_sub hl [0, 1, 2, 3, 4, 5, 6, 7, 8, 9, 10, 11, 12, 13, 14, 15] rfl)
                      · skip
                        refine lv_iload hx hb dX12_edit_304 (lv_at hl 9 rfl) ?_
                        refine lv_ldc (v := (-16777216)) hx hb hown q_5 dX12_edit_306 ?_
                        refine lv_iand hx hb dX12_edit_308 ?_
                        refine lv_iload_n hx hb dX12_edit_309 rfl (lv_at hl 3 rfl) ?_
                        refine lv_iload hx hb dX12_edit_310 (lv_at hl 11 rfl) ?_
                        refine lv_iadd hx hb dX12_edit_312 ?_
                        refine lv_ior hx hb dX12_edit_313 ?_
                        refine lv_topi (fun x_314 ex_314 => ?_)
                        refine lv_istore (lv' := [(9, .int x_314), (0, .ref a_mo), (1, .int x0), (2, .int x1), (3, .int x2), (4, .int x3), (5, .int x_52), (6, .int w_78.2.2.1), (7, .int m_290.2.1), (8, .int m_290.2.2.2.2.2), (10, .int w_78.2.2.2.2.2.2.1), (11, .int w_78.2.2.2.2.2.2.2), (12, .int x_100), (13, .int m_290.2.2.2.2.1), (14, .int m_290.2.2.2.1), (15, .int m_290.2.2.1)]) hx hb dX12_edit_314 hl (by decide) rfl (fun ls hl => ?_)
                        exact J_316 x_314 (by subst ex_314; (try simp only [if_neg c_291, if_neg c_296, if_pos c_301])) _ _ hP hD hS ls (lv_sub hl [1, 2, 3, 4, 5, 6, 7, 8, 9, 0, 10, 11, 12, 13, 14, 15] rfl)
                refine lv_if_ge (tgt := 287) hx hb dX12_edit_128 (by decide) (fun c_128 => ?_) (fun c_128 => ?_)
                · skip
                  refine lv_iconst (v := (-1)) hx hb dX12_edit_287 (by decide) ?_
                  refine lv_istore (lv' := [(7, .int (-1)), (15, .int 0), (14, .int 0), (13, .int w_78.2.2.2.1), (12, .int x_100), (0, .ref a_mo), (1, .int x0), (2, .int x1), (3, .int x2), (4, .int x3), (5, .int x_52), (6, .int w_78.2.2.1), (8, .int w_78.2.2.2.2.1), (9, .int w_78.2.2.2.2.2.1), (10, .int w_78.2.2.2.2.2.2.1), (11, .int w_78.2.2.2.2.2.2.2)]) hx hb dX12_edit_288 hl (by decide) rfl (fun ls hl => ?_)
                  exact J_290 (w_78.1, (-1), 0, 0, w_78.2.2.2.1, w_78.2.2.2.2.1) (by (try simp only [if_pos c_128])) _ _ hP hD hS ls (lv_sub hl [5, 6, 7, 8, 9, 10, 11, 0, 12, 13, 14, 15, 4, 3, 2, 1] rfl)
                · skip
                  refine lv_aload_n hx hb dX12_edit_131 rfl (lv_at hl 4 rfl) ?_
                  refine lv_iload hx hb dX12_edit_132 (lv_at hl 12 rfl) ?_
                  refine lv_ldc (v := 16777215) hx hb hown q_4 dX12_edit_134 ?_
                  refine lv_iand hx hb dX12_edit_136 ?_
                  refine lv_iconst (v := 1) hx hb dX12_edit_137 (by decide) ?_
                  refine lv_iconst (v := 0) hx hb dX12_edit_138 (by decide) ?_
                  have hPc : va_P D vwCl (wX12_look cI cB a_mo a_mem a_mks a_mr a_cnt a_wd a_one a_two a_mmade a_mrest a_old v_thrown v_mask v_key v_wait v_problem v_code v_length v_cond v_masks v_addr v_mwanted w_78.1 v_after v_calls v_oneB v_twoB v_mkF) H := hP.sub [0, 2] rfl
                  have hDc : va_D A (wX12_look cI cB a_mo a_mem a_mks a_mr a_cnt a_wd a_one a_two a_mmade a_mrest a_old v_thrown v_mask v_key v_wait v_problem v_code v_length v_cond v_masks v_addr v_mwanted w_78.1 v_after v_calls v_oneB v_twoB v_mkF) := hD.sub [0, 2] (by decide) rfl
                  have hFc := va_free (wc := (wX12_look cI cB a_mo a_mem a_mks a_mr a_cnt a_wd a_one a_two a_mmade a_mrest a_old v_thrown v_mask v_key v_wait v_problem v_code v_length v_cond v_masks v_addr v_mwanted w_78.1 v_after v_calls v_oneB v_twoB v_mkF)) hD hS hA [0, 2] rfl
                  refine va_callv (va_runV (As := [.int (w_78.2.2.2.2.1 &&& 16777215), .int 1, .int 0]) (rest := []) ⟨hx, hb, hml, hown, hts⟩ (kX12_look l D cI cB a_mo a_mem a_mks a_mr a_cnt a_wd a_one a_two a_mmade a_mrest a_old H.size v_thrown v_mask v_key v_wait v_problem v_code v_length v_cond v_masks v_addr v_mwanted w_78.1 v_after v_calls v_oneB v_twoB v_mkF (w_78.2.2.2.2.1 &&& 16777215) 1 0) (cwV 3 hts (gd_V wd_857 wd_858 wd_859 wd_807 wd_837) rfl rfl rfl hdX12_look ⟨Nat.le_of_ble_eq_true rfl, Nat.le_of_ble_eq_true rfl⟩) (preV_std (ci := 12) (q0 := 0) hPc hK hDc hNW rfl rfl) rfl rfl hl.1 rfl (lv_room (Nat.le_of_ble_eq_true rfl)) dX12_edit_139 ⟨Nat.zero_le _, Nat.zero_le _⟩) hS (fun q _ h => hFc q h) hFc (fun u_139 t9 H1 locs ht9 hvm9 hw9 hB9 hz9 hk9 hS => ?_)
                  have eu_139 : u_139 = fX12_look (w_78.2.2.2.2.1 &&& 16777215) 1 0 v_key w_78.1 v_mkF := hw9
                  obtain ⟨hP, hD⟩ := back_std (w1 := (wX12_look cI cB a_mo a_mem a_mks a_mr a_cnt a_wd a_one a_two a_mmade a_mrest a_old v_thrown v_mask v_key v_wait v_problem v_code v_length v_cond v_masks v_addr v_mwanted u_139 v_after v_calls v_oneB v_twoB v_mkF)) (w2 := (wX12_edit cI cB a_mo a_mem a_mks a_mr a_cnt a_wd a_one a_two a_mmade a_mrest a_old v_thrown v_mask v_key v_wait v_problem v_code v_length v_cond v_masks v_addr v_mwanted u_139 v_after v_calls v_oneB v_twoB w_78.2.1 v_mkF v_mrF g_18.1)) (wr := [(a_mem, .inl (cI, 8192, .inl w_78.2.1)), (a_mr, .inl (cI, 16, .inl v_mrF)), (a_old, .inl (cI, 512, .inl g_18.1))]) hP hD [0, 2] [1, 3, 4] [3, 0, 4, 1, 2] rfl rfl (by decide) (by decide) hk9 hFc hB9 ht9 (by decide) rfl
                  clear hB9 hk9 hz9 hvm9 ht9 hFc hPc hDc
                  generalize H1 = H at hP hS ⊢
                  refine lv_iload hx hb dX12_edit_142 (lv_at hl 12 rfl) ?_
                  refine lv_ldc (v := 16777215) hx hb hown q_4 dX12_edit_144 ?_
                  refine lv_iand hx hb dX12_edit_146 ?_
                  refine lv_topi (fun x_147 ex_147 => ?_)
                  refine lv_istore (lv' := [(16, .int x_147), (15, .int 0), (14, .int 0), (13, .int w_78.2.2.2.1), (12, .int x_100), (0, .ref a_mo), (1, .int x0), (2, .int x1), (3, .int x2), (4, .int x3), (5, .int x_52), (6, .int w_78.2.2.1), (7, .int w_78.2.2.2.1), (8, .int w_78.2.2.2.2.1), (9, .int w_78.2.2.2.2.2.1), (10, .int w_78.2.2.2.2.2.2.1), (11, .int w_78.2.2.2.2.2.2.2)]) hx hb dX12_edit_147 hl (by decide) rfl (fun ls hl => ?_)
                  refine lv_aload_n hx hb dX12_edit_149 rfl (lv_at hl 5 rfl) ?_
                  refine va_get (D := D) (ci := 12) (v := .int u_139) (C := RX12) (T := TX12) (N := 26) hx hb hts in_X12 hown hK hP 0 rfl rfl 16 (by decide) q_0 (fun _ h9 => h9) rfl dX12_edit_150 ?_
                  have J_193 : ∀ (m_193 : Int32), m_193 = (if u_139 ≤ 0 then (if x_147 < x2 then ((w_78.2.1 (x_147 : Int32).toNatClampNeg)) else (if (x2 + x1) ≤ x_147 then ((w_78.2.1 (x_147 : Int32).toNatClampNeg)) else ((g_18.1 ((x_147 - x2) : Int32).toNatClampNeg)))) else (0)) → ∀ (H : Heap) (locs : List Loc), va_P D vwCl (wX12_edit cI cB a_mo a_mem a_mks a_mr a_cnt a_wd a_one a_two a_mmade a_mrest a_old v_thrown v_mask v_key v_wait v_problem v_code v_length v_cond v_masks v_addr v_mwanted u_139 v_after v_calls v_oneB v_twoB w_78.2.1 v_mkF v_mrF g_18.1) H → va_D A (wX12_edit cI cB a_mo a_mem a_mks a_mr a_cnt a_wd a_one a_two a_mmade a_mrest a_old v_thrown v_mask v_key v_wait v_problem v_code v_length v_cond v_masks v_addr v_mwanted u_139 v_after v_calls v_oneB v_twoB w_78.2.1 v_mkF v_mrF g_18.1) → va_S A s.heap H locs → ∀ (ls : Array Slot), lv_has ls 18 [(0, .ref a_mo), (1, .int x0), (2, .int x1), (3, .int x2), (4, .int x3), (5, .int x_52), (6, .int w_78.2.2.1), (7, .int w_78.2.2.2.1), (8, .int w_78.2.2.2.2.1), (9, .int w_78.2.2.2.2.2.1), (10, .int w_78.2.2.2.2.2.2.1), (11, .int w_78.2.2.2.2.2.2.2), (12, .int x_100), (13, .int w_78.2.2.2.1), (14, .int 0), (15, .int 0), (16, .int x_147)] → W p l e rmX12_edit s m ([.ref a_mo, .int x0, .int x1, .int x2, .int x3] : List Value).toArray below meth c H locs 0 0 (MQ below (qX12_edit D cI cB a_mo a_mem a_mks a_mr a_cnt a_wd a_one a_two a_mmade a_mrest a_old v_thrown v_mask v_key v_wait v_problem v_code v_length v_cond v_masks v_addr v_mwanted v_wrong v_after v_calls v_oneB v_twoB v_mF v_mkF v_mrF v_oldF x0 x1 x2 x3 A) ([.ref a_mo, .int x0, .int x1, .int x2, .int x3] : List Value).toArray s 0 0 A) (F0 m 193 ls [.int m_193]) := by
                    intro m_193 em_193 H locs hP hD hS ls hl
                    try dsimp only at em_193
                    refine lv_istore (lv' := [(17, .int m_193), (0, .ref a_mo), (1, .int x0), (2, .int x1), (3, .int x2), (4, .int x3), (5, .int x_52), (6, .int w_78.2.2.1), (7, .int w_78.2.2.2.1), (8, .int w_78.2.2.2.2.1), (9, .int w_78.2.2.2.2.2.1), (10, .int w_78.2.2.2.2.2.2.1), (11, .int w_78.2.2.2.2.2.2.2), (12, .int x_100), (13, .int w_78.2.2.2.1), (14, .int 0), (15, .int 0), (16, .int x_147)]) hx hb dX12_edit_193 hl (by decide) rfl (fun ls hl => ?_)
                    obtain ⟨x_195, ex_195⟩ : ∃ z : Int32, z = w_78.2.2.2.2.1 + 1 := ⟨_, rfl⟩
                    refine lv_iinc (v := x_195) (lv' := [(8, .int x_195), (17, .int m_193), (0, .ref a_mo), (1, .int x0), (2, .int x1), (3, .int x2), (4, .int x3), (5, .int x_52), (6, .int w_78.2.2.1), (7, .int w_78.2.2.2.1), (9, .int w_78.2.2.2.2.2.1), (10, .int w_78.2.2.2.2.2.2.1), (11, .int w_78.2.2.2.2.2.2.2), (12, .int x_100), (13, .int w_78.2.2.2.1), (14, .int 0), (15, .int 0), (16, .int x_147)]) hx hb dX12_edit_195 hl (k := 9) rfl (by rw [ex_195]; rfl) (by decide) rfl (fun ls hl => ?_)
                    refine lv_iload hx hb dX12_edit_198 (lv_at hl 1 rfl) ?_
                    refine lv_iconst (v := 4) hx hb dX12_edit_200 (by decide) ?_
                    refine lv_ishr hx hb dX12_edit_201 ?_
                    refine lv_topi (fun x_202 ex_202 => ?_)
                    refine lv_istore (lv' := [(13, .int x_202), (8, .int x_195), (17, .int m_193), (0, .ref a_mo), (1, .int x0), (2, .int x1), (3, .int x2), (4, .int x3), (5, .int x_52), (6, .int w_78.2.2.1), (7, .int w_78.2.2.2.1), (9, .int w_78.2.2.2.2.2.1), (10, .int w_78.2.2.2.2.2.2.1), (11, .int w_78.2.2.2.2.2.2.2), (12, .int x_100), (14, .int 0), (15, .int 0), (16, .int x_147)]) hx hb dX12_edit_202 hl (by decide) rfl (fun ls hl => ?_)
                    refine lv_iload hx hb dX12_edit_204 (lv_at hl 2 rfl) ?_
                    refine lv_bipush (v := 15) hx hb dX12_edit_206 (by decide) ?_
                    refine lv_iand hx hb dX12_edit_208 ?_
                    refine lv_topi (fun x_209 ex_209 => ?_)
                    refine lv_istore (lv' := [(7, .int x_209), (13, .int x_202), (8, .int x_195), (17, .int m_193), (0, .ref a_mo), (1, .int x0), (2, .int x1), (3, .int x2), (4, .int x3), (5, .int x_52), (6, .int w_78.2.2.1), (9, .int w_78.2.2.2.2.2.1), (10, .int w_78.2.2.2.2.2.2.1), (11, .int w_78.2.2.2.2.2.2.2), (12, .int x_100), (14, .int 0), (15, .int 0), (16, .int x_147)]) hx hb dX12_edit_209 hl (by decide) rfl (fun ls hl => ?_)
                    refine lv_aload_n hx hb dX12_edit_211 rfl (lv_at hl 4 rfl) ?_
                    refine va_get (D := D) (ci := 12) (v := .int u_139) (C := RX12) (T := TX12) (N := 26) hx hb hts in_X12 hown hK hP 0 rfl rfl 16 (by decide) q_0 (fun _ h9 => h9) rfl dX12_edit_212 ?_
                    have J_231 : ∀ (m_231 : Int32), m_231 = (if u_139 = 0 then (if x_202 ≤ 9 then (u_139) else (let u_228 := fX12_meet 7 u_139; u_228)) else (u_139)) → ∀ (H : Heap) (locs : List Loc), va_P D vwCl (wX12_edit cI cB a_mo a_mem a_mks a_mr a_cnt a_wd a_one a_two a_mmade a_mrest a_old v_thrown v_mask v_key v_wait v_problem v_code v_length v_cond v_masks v_addr v_mwanted m_231 v_after v_calls v_oneB v_twoB w_78.2.1 v_mkF v_mrF g_18.1) H → va_D A (wX12_edit cI cB a_mo a_mem a_mks a_mr a_cnt a_wd a_one a_two a_mmade a_mrest a_old v_thrown v_mask v_key v_wait v_problem v_code v_length v_cond v_masks v_addr v_mwanted m_231 v_after v_calls v_oneB v_twoB w_78.2.1 v_mkF v_mrF g_18.1) → va_S A s.heap H locs → ∀ (ls : Array Slot), lv_has ls 18 [(0, .ref a_mo), (1, .int x0), (2, .int x1), (3, .int x2), (4, .int x3), (5, .int x_52), (6, .int w_78.2.2.1), (7, .int x_209), (8, .int x_195), (9, .int w_78.2.2.2.2.2.1), (10, .int w_78.2.2.2.2.2.2.1), (11, .int w_78.2.2.2.2.2.2.2), (12, .int x_100), (13, .int x_202), (14, .int 0), (15, .int 0), (16, .int x_147), (17, .int m_193)] → W p l e rmX12_edit s m ([.ref a_mo, .int x0, .int x1, .int x2, .int x3] : List Value).toArray below meth c H locs 0 0 (MQ below (qX12_edit D cI cB a_mo a_mem a_mks a_mr a_cnt a_wd a_one a_two a_mmade a_mrest a_old v_thrown v_mask v_key v_wait v_problem v_code v_length v_cond v_masks v_addr v_mwanted v_wrong v_after v_calls v_oneB v_twoB v_mF v_mkF v_mrF v_oldF x0 x1 x2 x3 A) ([.ref a_mo, .int x0, .int x1, .int x2, .int x3] : List Value).toArray s 0 0 A) (F0 m 231 ls []) := by
                      intro m_231 em_231 H locs hP hD hS ls hl
                      try dsimp only at em_231
                      refine lv_iload hx hb dX12_edit_231 (lv_at hl 7 rfl) ?_
                      refine lv_bipush (v := 9) hx hb dX12_edit_233 (by decide) ?_
                      have J_243 : ∀ (m_243 : Int32), m_243 = (if x_209 ≤ 9 then (0) else (1)) → ∀ (H : Heap) (locs : List Loc), va_P D vwCl (wX12_edit cI cB a_mo a_mem a_mks a_mr a_cnt a_wd a_one a_two a_mmade a_mrest a_old v_thrown v_mask v_key v_wait v_problem v_code v_length v_cond v_masks v_addr v_mwanted m_231 v_after v_calls v_oneB v_twoB w_78.2.1 v_mkF v_mrF g_18.1) H → va_D A (wX12_edit cI cB a_mo a_mem a_mks a_mr a_cnt a_wd a_one a_two a_mmade a_mrest a_old v_thrown v_mask v_key v_wait v_problem v_code v_length v_cond v_masks v_addr v_mwanted m_231 v_after v_calls v_oneB v_twoB w_78.2.1 v_mkF v_mrF g_18.1) → va_S A s.heap H locs → ∀ (ls : Array Slot), lv_has ls 18 [(0, .ref a_mo), (1, .int x0), (2, .int x1), (3, .int x2), (4, .int x3), (5, .int x_52), (6, .int w_78.2.2.1), (7, .int x_209), (8, .int x_195), (9, .int w_78.2.2.2.2.2.1), (10, .int w_78.2.2.2.2.2.2.1), (11, .int w_78.2.2.2.2.2.2.2), (12, .int x_100), (13, .int x_202), (14, .int 0), (15, .int 0), (16, .int x_147), (17, .int m_193)] → W p l e rmX12_edit s m ([.ref a_mo, .int x0, .int x1, .int x2, .int x3] : List Value).toArray below meth c H locs 0 0 (MQ below (qX12_edit D cI cB a_mo a_mem a_mks a_mr a_cnt a_wd a_one a_two a_mmade a_mrest a_old v_thrown v_mask v_key v_wait v_problem v_code v_length v_cond v_masks v_addr v_mwanted v_wrong v_after v_calls v_oneB v_twoB v_mF v_mkF v_mrF v_oldF x0 x1 x2 x3 A) ([.ref a_mo, .int x0, .int x1, .int x2, .int x3] : List Value).toArray s 0 0 A) (F0 m 243 ls [.int m_243]) := by
                        intro m_243 em_243 H locs hP hD hS ls hl
                        try dsimp only at em_243
                        have zm_243_0 : m_243 = 0 ∨ m_243 = 1 := by rw [em_243]; (try dsimp only); (repeat' split) <;> first | exact Or.inl rfl | exact Or.inr rfl
                        refine lv_istore (lv' := [(14, .int m_243), (0, .ref a_mo), (1, .int x0), (2, .int x1), (3, .int x2), (4, .int x3), (5, .int x_52), (6, .int w_78.2.2.1), (7, .int x_209), (8, .int x_195), (9, .int w_78.2.2.2.2.2.1), (10, .int w_78.2.2.2.2.2.2.1), (11, .int w_78.2.2.2.2.2.2.2), (12, .int x_100), (13, .int x_202), (15, .int 0), (16, .int x_147), (17, .int m_193)]) hx hb dX12_edit_243 hl (by decide) rfl (fun ls hl => ?_)
                        refine lv_iload hx hb dX12_edit_245 (lv_at hl 0 rfl) ?_
                        have J_269 : ∀ (m_269 : Int32), m_269 = (if m_243 = 0 then (0) else (if x_209 = 11 then (0) else (if x_209 = 13 then (0) else (1)))) → ∀ (H : Heap) (locs : List Loc), va_P D vwCl (wX12_edit cI cB a_mo a_mem a_mks a_mr a_cnt a_wd a_one a_two a_mmade a_mrest a_old v_thrown v_mask v_key v_wait v_problem v_code v_length v_cond v_masks v_addr v_mwanted m_231 v_after v_calls v_oneB v_twoB w_78.2.1 v_mkF v_mrF g_18.1) H → va_D A (wX12_edit cI cB a_mo a_mem a_mks a_mr a_cnt a_wd a_one a_two a_mmade a_mrest a_old v_thrown v_mask v_key v_wait v_problem v_code v_length v_cond v_masks v_addr v_mwanted m_231 v_after v_calls v_oneB v_twoB w_78.2.1 v_mkF v_mrF g_18.1) → va_S A s.heap H locs → ∀ (ls : Array Slot), lv_has ls 18 [(0, .ref a_mo), (1, .int x0), (2, .int x1), (3, .int x2), (4, .int x3), (5, .int x_52), (6, .int w_78.2.2.1), (7, .int x_209), (8, .int x_195), (9, .int w_78.2.2.2.2.2.1), (10, .int w_78.2.2.2.2.2.2.1), (11, .int w_78.2.2.2.2.2.2.2), (12, .int x_100), (13, .int x_202), (14, .int m_243), (15, .int 0), (16, .int x_147), (17, .int m_193)] → W p l e rmX12_edit s m ([.ref a_mo, .int x0, .int x1, .int x2, .int x3] : List Value).toArray below meth c H locs 0 0 (MQ below (qX12_edit D cI cB a_mo a_mem a_mks a_mr a_cnt a_wd a_one a_two a_mmade a_mrest a_old v_thrown v_mask v_key v_wait v_problem v_code v_length v_cond v_masks v_addr v_mwanted v_wrong v_after v_calls v_oneB v_twoB v_mF v_mkF v_mrF v_oldF x0 x1 x2 x3 A) ([.ref a_mo, .int x0, .int x1, .int x2, .int x3] : List Value).toArray s 0 0 A) (F0 m 269 ls [.int m_269]) := by
                          intro m_269 em_269 H locs hP hD hS ls hl
                          try dsimp only at em_269
                          have zm_269_0 : m_269 = 0 ∨ m_269 = 1 := by rw [em_269]; (try dsimp only); (repeat' split) <;> first | exact Or.inl rfl | exact Or.inr rfl
                          refine lv_istore (lv' := [(15, .int m_269), (0, .ref a_mo), (1, .int x0), (2, .int x1), (3, .int x2), (4, .int x3), (5, .int x_52), (6, .int w_78.2.2.1), (7, .int x_209), (8, .int x_195), (9, .int w_78.2.2.2.2.2.1), (10, .int w_78.2.2.2.2.2.2.1), (11, .int w_78.2.2.2.2.2.2.2), (12, .int x_100), (13, .int x_202), (14, .int m_243), (16, .int x_147), (17, .int m_193)]) hx hb dX12_edit_269 hl (by decide) rfl (fun ls hl => ?_)
                          refine lv_iload hx hb dX12_edit_271 (lv_at hl 15 rfl) ?_
                          have J_282 : ∀ (m_282 : Int32), m_282 = (if m_243 = 0 then (x_209) else ((-1))) → ∀ (H : Heap) (locs : List Loc), va_P D vwCl (wX12_edit cI cB a_mo a_mem a_mks a_mr a_cnt a_wd a_one a_two a_mmade a_mrest a_old v_thrown v_mask v_key v_wait v_problem v_code v_length v_cond v_masks v_addr v_mwanted m_231 v_after v_calls v_oneB v_twoB w_78.2.1 v_mkF v_mrF g_18.1) H → va_D A (wX12_edit cI cB a_mo a_mem a_mks a_mr a_cnt a_wd a_one a_two a_mmade a_mrest a_old v_thrown v_mask v_key v_wait v_problem v_code v_length v_cond v_masks v_addr v_mwanted m_231 v_after v_calls v_oneB v_twoB w_78.2.1 v_mkF v_mrF g_18.1) → va_S A s.heap H locs → ∀ (ls : Array Slot), lv_has ls 18 [(0, .ref a_mo), (1, .int x0), (2, .int x1), (3, .int x2), (4, .int x3), (5, .int x_52), (6, .int w_78.2.2.1), (7, .int x_209), (8, .int x_195), (9, .int w_78.2.2.2.2.2.1), (10, .int w_78.2.2.2.2.2.2.1), (11, .int w_78.2.2.2.2.2.2.2), (12, .int x_100), (13, .int x_202), (14, .int m_243), (15, .int m_269), (16, .int x_147), (17, .int m_193)] → W p l e rmX12_edit s m ([.ref a_mo, .int x0, .int x1, .int x2, .int x3] : List Value).toArray below meth c H locs 0 0 (MQ below (qX12_edit D cI cB a_mo a_mem a_mks a_mr a_cnt a_wd a_one a_two a_mmade a_mrest a_old v_thrown v_mask v_key v_wait v_problem v_code v_length v_cond v_masks v_addr v_mwanted v_wrong v_after v_calls v_oneB v_twoB v_mF v_mkF v_mrF v_oldF x0 x1 x2 x3 A) ([.ref a_mo, .int x0, .int x1, .int x2, .int x3] : List Value).toArray s 0 0 A) (F0 m 282 ls [.int m_282]) := by
                            intro m_282 em_282 H locs hP hD hS ls hl
                            try dsimp only at em_282
                            refine lv_istore (lv' := [(7, .int m_282), (0, .ref a_mo), (1, .int x0), (2, .int x1), (3, .int x2), (4, .int x3), (5, .int x_52), (6, .int w_78.2.2.1), (8, .int x_195), (9, .int w_78.2.2.2.2.2.1), (10, .int w_78.2.2.2.2.2.2.1), (11, .int w_78.2.2.2.2.2.2.2), (12, .int x_100), (13, .int x_202), (14, .int m_243), (15, .int m_269), (16, .int x_147), (17, .int m_193)]) hx hb dX12_edit_282 hl (by decide) rfl (fun ls hl => ?_)
                            refine lv_goto (tgt := 290) hx hb dX12_edit_284 (by decide) ?_
                            exact J_290 (m_231, m_282, m_269, m_243, x_202, x_195) (by subst ex_209; subst ex_202; subst ex_195; subst ex_147; (try simp only [← eu_139, ← em_193, ← em_231, ← em_243, ← em_269, ← em_282]); (try simp only [if_neg c_128])) _ _ hP hD hS ls (lv_sub hl [1, 2, 3, 4, 5, 6, 7, 0, 8, 9, 10, 11, 12, 13, 14, 15] rfl)
                          refine lv_if_eq (tgt := 280) hx hb dX12_edit_273 (by decide) (fun c_273 => ?_) (fun c_273 => ?_)
                          · skip
                            refine lv_iload hx hb dX12_edit_280 (lv_at hl 8 rfl) ?_
                            exact J_282 x_209 (by (try simp only [if_pos c_273])) _ _ hP hD hS ls (lv_sub hl [1, 2, 3, 4, 5, 6, 7, 8, 9, 10, 11, 12, 13, 14, 15, 0, 16, 17] rfl)
                          · skip
                            refine lv_iconst (v := (-1)) hx hb dX12_edit_276 (by decide) ?_
                            refine lv_goto (tgt := 282) hx hb dX12_edit_277 (by decide) ?_
                            exact J_282 (-1) (by (try simp only [if_neg c_273])) _ _ hP hD hS ls (lv_sub hl [1, 2, 3, 4, 5, 6, 7, 8, 9, 10, 11, 12, 13, 14, 15, 0, 16, 17] rfl)
                        refine lv_if_eq (tgt := 268) hx hb dX12_edit_247 (by decide) (fun c_247 => ?_) (fun c_247 => ?_)
                        · skip
                          refine lv_iconst (v := 0) hx hb dX12_edit_268 (by decide) ?_
                          exact J_269 0 (by (try simp only [if_pos c_247])) _ _ hP hD hS ls (lv_sub hl [1, 2, 3, 4, 5, 6, 7, 8, 9, 10, 11, 12, 13, 14, 0, 15, 16, 17] rfl)
                        · skip
                          refine lv_iload hx hb dX12_edit_250 (lv_at hl 8 rfl) ?_
                          refine lv_bipush (v := 11) hx hb dX12_edit_252 (by decide) ?_
                          refine lv_icmp_eq (tgt := 268) hx hb dX12_edit_254 (by decide) (fun c_254 => ?_) (fun c_254 => ?_)
                          · skip
                            refine lv_iconst (v := 0) hx hb dX12_edit_268 (by decide) ?_
                            exact J_269 0 (by (try simp only [if_neg c_247, if_pos c_254])) _ _ hP hD hS ls (lv_sub hl [1, 2, 3, 4, 5, 6, 7, 8, 9, 10, 11, 12, 13, 14, 0, 15, 16, 17] rfl)
                          · skip
                            refine lv_iload hx hb dX12_edit_257 (lv_at hl 8 rfl) ?_
                            refine lv_bipush (v := 13) hx hb dX12_edit_259 (by decide) ?_
                            refine lv_icmp_eq (tgt := 268) hx hb dX12_edit_261 (by decide) (fun c_261 => ?_) (fun c_261 => ?_)
                            · skip
                              refine lv_iconst (v := 0) hx hb dX12_edit_268 (by decide) ?_
                              exact J_269 0 (by (try simp only [if_neg c_247, if_neg c_254, if_pos c_261])) _ _ hP hD hS ls (lv_sub hl [1, 2, 3, 4, 5, 6, 7, 8, 9, 10, 11, 12, 13, 14, 0, 15, 16, 17] rfl)
                            · skip
                              refine lv_iconst (v := 1) hx hb dX12_edit_264 (by decide) ?_
                              refine lv_goto (tgt := 269) hx hb dX12_edit_265 (by decide) ?_
                              exact J_269 1 (by (try simp only [if_neg c_247, if_neg c_254, if_neg c_261])) _ _ hP hD hS ls (lv_sub hl [1, 2, 3, 4, 5, 6, 7, 8, 9, 10, 11, 12, 13, 14, 0, 15, 16, 17] rfl)
                      refine lv_icmp_le (tgt := 242) hx hb dX12_edit_235 (by decide) (fun c_235 => ?_) (fun c_235 => ?_)
                      · skip
                        refine lv_iconst (v := 0) hx hb dX12_edit_242 (by decide) ?_
                        exact J_243 0 (by (try simp only [if_pos c_235])) _ _ hP hD hS ls (lv_sub hl [0, 1, 2, 3, 4, 5, 6, 7, 8, 9, 10, 11, 12, 13, 14, 15, 16, 17] rfl)
                      · skip
                        refine lv_iconst (v := 1) hx hb dX12_edit_238 (by decide) ?_
                        refine lv_goto (tgt := 243) hx hb dX12_edit_239 (by decide) ?_
                        exact J_243 1 (by (try simp only [if_neg c_235])) _ _ hP hD hS ls (lv_sub hl [0, 1, 2, 3, 4, 5, 6, 7, 8, 9, 10, 11, 12, 13, 14, 15, 16, 17] rfl)
                    refine lv_if_ne (tgt := 231) hx hb dX12_edit_215 (by decide) (fun c_215 => ?_) (fun c_215 => ?_)
                    · skip
                      exact J_231 u_139 (by (try simp only [if_neg c_215])) _ _ hP hD hS ls (lv_sub hl [4, 5, 6, 7, 8, 9, 10, 0, 2, 11, 12, 13, 14, 1, 15, 16, 17, 3] rfl)
                    · skip
                      refine lv_iload hx hb dX12_edit_218 (lv_at hl 1 rfl) ?_
                      refine lv_bipush (v := 9) hx hb dX12_edit_220 (by decide) ?_
                      refine lv_icmp_le (tgt := 231) hx hb dX12_edit_222 (by decide) (fun c_222 => ?_) (fun c_222 => ?_)
                      · skip
                        exact J_231 u_139 (by (try simp only [if_pos c_215, if_pos c_222])) _ _ hP hD hS ls (lv_sub hl [4, 5, 6, 7, 8, 9, 10, 0, 2, 11, 12, 13, 14, 1, 15, 16, 17, 3] rfl)
                      · skip
                        refine lv_aload_n hx hb dX12_edit_225 rfl (lv_at hl 4 rfl) ?_
                        refine lv_bipush (v := 7) hx hb dX12_edit_226 (by decide) ?_
                        have hPc : va_P D vwCl (wX12_meet cI cB a_mo a_mem a_mks a_mr a_cnt a_wd a_one a_two a_mmade a_mrest a_old v_thrown v_mask v_key v_wait v_problem v_code v_length v_cond v_masks v_addr v_mwanted u_139 v_after v_calls v_oneB v_twoB) H := hP.sub [0] rfl
                        have hDc : va_D A (wX12_meet cI cB a_mo a_mem a_mks a_mr a_cnt a_wd a_one a_two a_mmade a_mrest a_old v_thrown v_mask v_key v_wait v_problem v_code v_length v_cond v_masks v_addr v_mwanted u_139 v_after v_calls v_oneB v_twoB) := hD.sub [0] (by decide) rfl
                        have hFc := va_free (wc := (wX12_meet cI cB a_mo a_mem a_mks a_mr a_cnt a_wd a_one a_two a_mmade a_mrest a_old v_thrown v_mask v_key v_wait v_problem v_code v_length v_cond v_masks v_addr v_mwanted u_139 v_after v_calls v_oneB v_twoB)) hD hS hA [0] rfl
                        refine va_callv (va_runV (As := [.int 7]) (rest := []) ⟨hx, hb, hml, hown, hts⟩ (kX12_meet l D cI cB a_mo a_mem a_mks a_mr a_cnt a_wd a_one a_two a_mmade a_mrest a_old H.size v_thrown v_mask v_key v_wait v_problem v_code v_length v_cond v_masks v_addr v_mwanted u_139 v_after v_calls v_oneB v_twoB 7) (cwV 1 hts (gd_V wd_838 wd_839 wd_840 wd_807 wd_835) rfl rfl rfl hdX12_meet ⟨Nat.le_of_ble_eq_true rfl, Nat.le_of_ble_eq_true rfl⟩) (preV_std (ci := 12) (q0 := 0) hPc hK hDc hNW rfl rfl) rfl rfl hl.1 rfl (lv_room (Nat.le_of_ble_eq_true rfl)) dX12_edit_228 ⟨Nat.zero_le _, Nat.zero_le _⟩) hS (fun q _ h => hFc q h) hFc (fun u_228 t9 H1 locs ht9 hvm9 hw9 hB9 hz9 hk9 hS => ?_)
                        have eu_228 : u_228 = fX12_meet 7 u_139 := hw9
                        obtain ⟨hP, hD⟩ := back_std (w1 := (wX12_meet cI cB a_mo a_mem a_mks a_mr a_cnt a_wd a_one a_two a_mmade a_mrest a_old v_thrown v_mask v_key v_wait v_problem v_code v_length v_cond v_masks v_addr v_mwanted u_228 v_after v_calls v_oneB v_twoB)) (w2 := (wX12_edit cI cB a_mo a_mem a_mks a_mr a_cnt a_wd a_one a_two a_mmade a_mrest a_old v_thrown v_mask v_key v_wait v_problem v_code v_length v_cond v_masks v_addr v_mwanted u_228 v_after v_calls v_oneB v_twoB w_78.2.1 v_mkF v_mrF g_18.1)) (wr := [(a_mem, .inl (cI, 8192, .inl w_78.2.1)), (a_mks, .inl (cI, 4, .inl v_mkF)), (a_mr, .inl (cI, 16, .inl v_mrF)), (a_old, .inl (cI, 512, .inl g_18.1))]) hP hD [0] [1, 2, 3, 4] [4, 0, 1, 2, 3] rfl rfl (by decide) (by decide) hk9 hFc hB9 ht9 (by decide) rfl
                        clear hB9 hk9 hz9 hvm9 ht9 hFc hPc hDc
                        generalize H1 = H at hP hS ⊢
                        exact J_231 u_228 (by (try simp only [← eu_228]); (try simp only [if_pos c_215, if_neg c_222])) _ _ hP hD hS ls (lv_sub hl [4, 5, 6, 7, 8, 9, 10, 0, 2, 11, 12, 13, 14, 1, 15, 16, 17, 3] rfl)
                  refine lv_if_le (tgt := 160) hx hb dX12_edit_153 (by decide) (fun c_153 => ?_) (fun c_153 => ?_)
                  · skip
                    refine lv_iload hx hb dX12_edit_160 (lv_at hl 0 rfl) ?_
                    refine lv_iload_n hx hb dX12_edit_162 rfl (lv_at hl 8 rfl) ?_
                    refine lv_icmp_lt (tgt := 186) hx hb dX12_edit_163 (by decide) (fun c_163 => ?_) (fun c_163 => ?_)
                    · skip
                      refine lv_aload_n hx hb dX12_edit_186 rfl (lv_at hl 5 rfl) ?_
                      refine va_get (D := D) (ci := 12) (v := .ref a_mem) (C := RX12) (T := TX12) (N := 26) hx hb hts in_X12 hown hK hP 0 rfl rfl 1 (by decide) q_2 (fun _ h9 => h9) rfl dX12_edit_187 ?_
                      refine lv_iload hx hb dX12_edit_190 (lv_at hl 0 rfl) ?_
                      refine va_iald hx hb hK hP 1 0 rfl rfl (by rw [ex_147]; exact lk_in (in24_and _) (by rw [c_88]; decide) eu_139 c_153) dX12_edit_192 ?_
                      exact J_193 (w_78.2.1 (x_147 : Int32).toNatClampNeg) (by (try simp only [if_pos c_153, if_pos c_163])) _ _ hP hD hS ls (lv_sub hl [5, 6, 7, 8, 9, 10, 11, 12, 13, 14, 15, 16, 4, 3, 2, 1, 0] rfl)
                    · skip
                      refine lv_iload hx hb dX12_edit_166 (lv_at hl 0 rfl) ?_
                      refine lv_iload_n hx hb dX12_edit_168 rfl (lv_at hl 8 rfl) ?_
                      refine lv_iload_n hx hb dX12_edit_169 rfl (lv_at hl 7 rfl) ?_
                      refine lv_iadd hx hb dX12_edit_170 ?_
                      refine lv_icmp_ge (tgt := 186) hx hb dX12_edit_171 (by decide) (fun c_171 => ?_) (fun c_171 => ?_)
                      · skip
                        refine lv_aload_n hx hb dX12_edit_186 rfl (lv_at hl 5 rfl) ?_
                        refine va_get (D := D) (ci := 12) (v := .ref a_mem) (C := RX12) (T := TX12) (N := 26) hx hb hts in_X12 hown hK hP 0 rfl rfl 1 (by decide) q_2 (fun _ h9 => h9) rfl dX12_edit_187 ?_
                        refine lv_iload hx hb dX12_edit_190 (lv_at hl 0 rfl) ?_
                        refine va_iald hx hb hK hP 1 0 rfl rfl (by rw [ex_147]; exact lk_in (in24_and _) (by rw [c_88]; decide) eu_139 c_153) dX12_edit_192 ?_
                        exact J_193 (w_78.2.1 (x_147 : Int32).toNatClampNeg) (by (try simp only [if_pos c_153, if_neg c_163, if_pos c_171])) _ _ hP hD hS ls (lv_sub hl [5, 6, 7, 8, 9, 10, 11, 12, 13, 14, 15, 16, 4, 3, 2, 1, 0] rfl)
                      · skip
                        refine lv_aload_n hx hb dX12_edit_174 rfl (lv_at hl 5 rfl) ?_
                        refine va_get (D := D) (ci := 12) (v := .ref a_old) (C := RX12) (T := TX12) (N := 26) hx hb hts in_X12 hown hK hP 0 rfl rfl 25 (by decide) q_1 (fun _ h9 => h9) rfl dX12_edit_175 ?_
                        refine lv_iload hx hb dX12_edit_178 (lv_at hl 0 rfl) ?_
                        refine lv_iload_n hx hb dX12_edit_180 rfl (lv_at hl 8 rfl) ?_
                        refine lv_isub hx hb dX12_edit_181 ?_
                        refine va_iald hx hb hK hP 4 0 rfl rfl (ed_old hIn hn c_163 c_171) dX12_edit_182 ?_
                        refine lv_goto (tgt := 193) hx hb dX12_edit_183 (by decide) ?_
                        exact J_193 (g_18.1 ((x_147 - x2) : Int32).toNatClampNeg) (by (try simp only [if_pos c_153, if_neg c_163, if_neg c_171])) _ _ hP hD hS ls (lv_sub hl [5, 6, 7, 8, 9, 10, 11, 12, 13, 14, 15, 16, 4, 3, 2, 1, 0] rfl)
                  · skip
                    refine lv_iconst (v := 0) hx hb dX12_edit_156 (by decide) ?_
                    refine lv_goto (tgt := 193) hx hb dX12_edit_157 (by decide) ?_
                    exact J_193 0 (by (try simp only [if_neg c_153])) _ _ hP hD hS ls (lv_sub hl [5, 6, 7, 8, 9, 10, 11, 12, 13, 14, 15, 16, 4, 3, 2, 1, 0] rfl)
              · skip
                refine lv_iload hx hb dX12_edit_109 (lv_at hl 0 rfl) ?_
                refine lv_bipush (v := 33) hx hb dX12_edit_111 (by decide) ?_
                refine lv_icmp_ne (tgt := 395) hx hb dX12_edit_113 (by decide) (fun c_113 => ?_) (fun c_113 => ?_)
                · skip
                  refine lv_iload hx hb dX12_edit_395 (lv_at hl 0 rfl) ?_
                  refine lv_bipush (v := 34) hx hb dX12_edit_397 (by decide) ?_
                  refine lv_icmp_ne (tgt := 422) hx hb dX12_edit_399 (by decide) (fun c_399 => ?_) (fun c_399 => ?_)
                  · skip
                    refine lv_aload_n hx hb dX12_edit_422 rfl (lv_at hl 1 rfl) ?_
                    refine va_get (D := D) (ci := 12) (v := .ref a_mem) (C := RX12) (T := TX12) (N := 26) hx hb hts in_X12 hown hK hP 0 rfl rfl 1 (by decide) q_2 (fun _ h9 => h9) rfl dX12_edit_423 ?_
                    refine lv_iload_n hx hb dX12_edit_426 rfl (lv_at hl 4 rfl) ?_
                    refine lv_iload hx hb dX12_edit_427 (lv_at hl 12 rfl) ?_
                    refine lv_iadd hx hb dX12_edit_429 ?_
                    refine lv_iload hx hb dX12_edit_430 (lv_at hl 7 rfl) ?_
                    have J_447 : ∀ (m_447 : Int32), m_447 = (if w_78.2.2.1 = 0 then (if w_78.2.2.2.2.2.2.2 = 0 then (x_100) else (x_52)) else (x_100)) → ∀ (H : Heap) (locs : List Loc), va_P D vwCl (wX12_edit cI cB a_mo a_mem a_mks a_mr a_cnt a_wd a_one a_two a_mmade a_mrest a_old v_thrown v_mask v_key v_wait v_problem v_code v_length v_cond v_masks v_addr v_mwanted w_78.1 v_after v_calls v_oneB v_twoB w_78.2.1 v_mkF v_mrF g_18.1) H → va_D A (wX12_edit cI cB a_mo a_mem a_mks a_mr a_cnt a_wd a_one a_two a_mmade a_mrest a_old v_thrown v_mask v_key v_wait v_problem v_code v_length v_cond v_masks v_addr v_mwanted w_78.1 v_after v_calls v_oneB v_twoB w_78.2.1 v_mkF v_mrF g_18.1) → va_S A s.heap H locs → ∀ (ls : Array Slot), lv_has ls 18 [(0, .ref a_mo), (1, .int x0), (2, .int x1), (3, .int x2), (4, .int x3), (5, .int x_52), (6, .int w_78.2.2.1), (7, .int w_78.2.2.2.1), (8, .int w_78.2.2.2.2.1), (9, .int w_78.2.2.2.2.2.1), (10, .int w_78.2.2.2.2.2.2.1), (11, .int w_78.2.2.2.2.2.2.2), (12, .int x_100)] → W p l e rmX12_edit s m ([.ref a_mo, .int x0, .int x1, .int x2, .int x3] : List Value).toArray below meth c H locs 0 0 (MQ below (qX12_edit D cI cB a_mo a_mem a_mks a_mr a_cnt a_wd a_one a_two a_mmade a_mrest a_old v_thrown v_mask v_key v_wait v_problem v_code v_length v_cond v_masks v_addr v_mwanted v_wrong v_after v_calls v_oneB v_twoB v_mF v_mkF v_mrF v_oldF x0 x1 x2 x3 A) ([.ref a_mo, .int x0, .int x1, .int x2, .int x3] : List Value).toArray s 0 0 A) (F0 m 447 ls [.int m_447, .int (x2 + w_78.2.2.2.2.2.2.2), .ref a_mem]) := by
                      intro m_447 em_447 H locs hP hD hS ls hl
                      try dsimp only at em_447
                      refine va_iast hx hb hK hP hD hS 1 0 rfl rfl (inM_at hIn hI9 c_81) dX12_edit_447 (fun H locs hP hD hS => ?_)
                      obtain ⟨f_447, ef_447⟩ : ∃ z : Nat → Int32, z = upd w_78.2.1 ((x2 + w_78.2.2.2.2.2.2.2) : Int32).toNatClampNeg (m_447) := ⟨_, rfl⟩
                      have hP : va_P D vwCl (wX12_edit cI cB a_mo a_mem a_mks a_mr a_cnt a_wd a_one a_two a_mmade a_mrest a_old v_thrown v_mask v_key v_wait v_problem v_code v_length v_cond v_masks v_addr v_mwanted w_78.1 v_after v_calls v_oneB v_twoB (upd w_78.2.1 ((x2 + w_78.2.2.2.2.2.2.2) : Int32).toNatClampNeg (m_447)) v_mkF v_mrF g_18.1) H := hP
                      have hD : va_D A (wX12_edit cI cB a_mo a_mem a_mks a_mr a_cnt a_wd a_one a_two a_mmade a_mrest a_old v_thrown v_mask v_key v_wait v_problem v_code v_length v_cond v_masks v_addr v_mwanted w_78.1 v_after v_calls v_oneB v_twoB (upd w_78.2.1 ((x2 + w_78.2.2.2.2.2.2.2) : Int32).toNatClampNeg (m_447)) v_mkF v_mrF g_18.1) := hD
                      rw [← ef_447] at hP hD
                      exact J_448 (w_78.1, f_447, w_78.2.2.1, w_78.2.2.2.1, w_78.2.2.2.2.1, w_78.2.2.2.2.2.1, w_78.2.2.2.2.2.2.1) (by subst ef_447; (try simp only [← em_447]); (try simp only [if_neg c_106, if_neg c_113, if_neg c_399])) _ _ hP hD hS ls (lv_sub hl [0, 1, 2, 3, 4, 5, 6, 7, 8, 9, 10, 11, 12] rfl)
                    refine lv_if_ne (tgt := 440) hx hb dX12_edit_432 (by decide) (fun c_432 => ?_) (fun c_432 => ?_)
                    · skip
                      refine lv_iload hx hb dX12_edit_440 (lv_at hl 0 rfl) ?_
                      refine lv_goto (tgt := 447) hx hb dX12_edit_442 (by decide) ?_
                      exact J_447 x_100 (by (try simp only [if_neg c_432])) _ _ hP hD hS ls (lv_sub hl [1, 2, 3, 4, 5, 6, 7, 8, 9, 10, 11, 12, 0] rfl)
                    · skip
                      refine lv_iload hx hb dX12_edit_435 (lv_at hl 12 rfl) ?_
                      refine lv_if_ne (tgt := 445) hx hb dX12_edit_437 (by decide) (fun c_437 => ?_) (fun c_437 => ?_)
                      · skip
                        refine lv_iload hx hb dX12_edit_445 (lv_at hl 6 rfl) ?_
                        exact J_447 x_52 (by (try simp only [if_pos c_432, if_neg c_437])) _ _ hP hD hS ls (lv_sub hl [1, 2, 3, 4, 5, 6, 7, 8, 9, 10, 11, 12, 0] rfl)
                      · skip
                        refine lv_iload hx hb dX12_edit_440 (lv_at hl 0 rfl) ?_
                        refine lv_goto (tgt := 447) hx hb dX12_edit_442 (by decide) ?_
                        exact J_447 x_100 (by (try simp only [if_pos c_432, if_pos c_437])) _ _ hP hD hS ls (lv_sub hl [1, 2, 3, 4, 5, 6, 7, 8, 9, 10, 11, 12, 0] rfl)
                  · skip
                    refine lv_aload_n hx hb dX12_edit_402 rfl (lv_at hl 1 rfl) ?_
                    refine va_get (D := D) (ci := 12) (v := .ref a_mem) (C := RX12) (T := TX12) (N := 26) hx hb hts in_X12 hown hK hP 0 rfl rfl 1 (by decide) q_2 (fun _ h9 => h9) rfl dX12_edit_403 ?_
                    refine lv_iload_n hx hb dX12_edit_406 rfl (lv_at hl 4 rfl) ?_
                    refine lv_iload hx hb dX12_edit_407 (lv_at hl 12 rfl) ?_
                    refine lv_iadd hx hb dX12_edit_409 ?_
                    refine lv_iload hx hb dX12_edit_410 (lv_at hl 6 rfl) ?_
                    refine va_iast hx hb hK hP hD hS 1 0 rfl rfl (inM_at hIn hI9 c_81) dX12_edit_412 (fun H locs hP hD hS => ?_)
                    obtain ⟨f_412, ef_412⟩ : ∃ z : Nat → Int32, z = upd w_78.2.1 ((x2 + w_78.2.2.2.2.2.2.2) : Int32).toNatClampNeg (x_52) := ⟨_, rfl⟩
                    have hP : va_P D vwCl (wX12_edit cI cB a_mo a_mem a_mks a_mr a_cnt a_wd a_one a_two a_mmade a_mrest a_old v_thrown v_mask v_key v_wait v_problem v_code v_length v_cond v_masks v_addr v_mwanted w_78.1 v_after v_calls v_oneB v_twoB (upd w_78.2.1 ((x2 + w_78.2.2.2.2.2.2.2) : Int32).toNatClampNeg (x_52)) v_mkF v_mrF g_18.1) H := hP
                    have hD : va_D A (wX12_edit cI cB a_mo a_mem a_mks a_mr a_cnt a_wd a_one a_two a_mmade a_mrest a_old v_thrown v_mask v_key v_wait v_problem v_code v_length v_cond v_masks v_addr v_mwanted w_78.1 v_after v_calls v_oneB v_twoB (upd w_78.2.1 ((x2 + w_78.2.2.2.2.2.2.2) : Int32).toNatClampNeg (x_52)) v_mkF v_mrF g_18.1) := hD
                    rw [← ef_412] at hP hD
                    refine lv_iconst (v := 0) hx hb dX12_edit_413 (by decide) ?_
                    refine lv_istore (lv' := [(6, .int 0), (12, .int x_100), (0, .ref a_mo), (1, .int x0), (2, .int x1), (3, .int x2), (4, .int x3), (5, .int x_52), (7, .int w_78.2.2.2.1), (8, .int w_78.2.2.2.2.1), (9, .int w_78.2.2.2.2.2.1), (10, .int w_78.2.2.2.2.2.2.1), (11, .int w_78.2.2.2.2.2.2.2)]) hx hb dX12_edit_414 hl (by decide) rfl (fun ls hl => ?_)
                    refine lv_iconst (v := 0) hx hb dX12_edit_416 (by decide) ?_
                    refine lv_istore (lv' := [(10, .int 0), (6, .int 0), (12, .int x_100), (0, .ref a_mo), (1, .int x0), (2, .int x1), (3, .int x2), (4, .int x3), (5, .int x_52), (7, .int w_78.2.2.2.1), (8, .int w_78.2.2.2.2.1), (9, .int w_78.2.2.2.2.2.1), (11, .int w_78.2.2.2.2.2.2.2)]) hx hb dX12_edit_417 hl (by decide) rfl (fun ls hl => ?_)
                    refine lv_goto (tgt := 448) hx hb dX12_edit_419 (by decide) ?_
                    exact J_448 (w_78.1, f_412, 0, w_78.2.2.2.1, w_78.2.2.2.2.1, w_78.2.2.2.2.2.1, 0) (by subst ef_412; (try simp only [if_neg c_106, if_neg c_113, if_pos c_399])) _ _ hP hD hS ls (lv_sub hl [3, 4, 5, 6, 7, 8, 1, 9, 10, 11, 0, 12, 2] rfl)
                · skip
                  refine lv_iload hx hb dX12_edit_116 (lv_at hl 8 rfl) ?_
                  refine lv_istore (lv' := [(13, .int w_78.2.2.2.1), (12, .int x_100), (0, .ref a_mo), (1, .int x0), (2, .int x1), (3, .int x2), (4, .int x3), (5, .int x_52), (6, .int w_78.2.2.1), (7, .int w_78.2.2.2.1), (8, .int w_78.2.2.2.2.1), (9, .int w_78.2.2.2.2.2.1), (10, .int w_78.2.2.2.2.2.2.1), (11, .int w_78.2.2.2.2.2.2.2)]) hx hb dX12_edit_118 hl (by decide) rfl (fun ls hl => ?_)
                  refine lv_iconst (v := 0) hx hb dX12_edit_120 (by decide) ?_
                  refine lv_istore (lv' := [(14, .int 0), (13, .int w_78.2.2.2.1), (12, .int x_100), (0, .ref a_mo), (1, .int x0), (2, .int x1), (3, .int x2), (4, .int x3), (5, .int x_52), (6, .int w_78.2.2.1), (7, .int w_78.2.2.2.1), (8, .int w_78.2.2.2.2.1), (9, .int w_78.2.2.2.2.2.1), (10, .int w_78.2.2.2.2.2.2.1), (11, .int w_78.2.2.2.2.2.2.2)]) hx hb dX12_edit_121 hl (by decide) rfl (fun ls hl => ?_)
                  refine lv_iconst (v := 0) hx hb dX12_edit_123 (by decide) ?_
                  refine lv_istore (lv' := [(15, .int 0), (14, .int 0), (13, .int w_78.2.2.2.1), (12, .int x_100), (0, .ref a_mo), (1, .int x0), (2, .int x1), (3, .int x2), (4, .int x3), (5, .int x_52), (6, .int w_78.2.2.1), (7, .int w_78.2.2.2.1), (8, .int w_78.2.2.2.2.1), (9, .int w_78.2.2.2.2.2.1), (10, .int w_78.2.2.2.2.2.2.1), (11, .int w_78.2.2.2.2.2.2.2)]) hx hb dX12_edit_124 hl (by decide) rfl (fun ls hl => ?_)
                  refine lv_iload hx hb dX12_edit_126 (lv_at hl 11 rfl) ?_
                  have J_290 : ∀ (m_290 : (Int32 × Int32 × Int32 × Int32 × Int32 × Int32)), m_290 = (if 0 ≤ w_78.2.2.2.1 then ((w_78.1, (-1), 0, 0, w_78.2.2.2.1, w_78.2.2.2.2.1)) else (let u_139 := fX12_look (w_78.2.2.2.2.1 &&& 16777215) 1 0 v_key w_78.1 v_mkF; let x_147 := (w_78.2.2.2.2.1 &&& 16777215); let m_193 : Int32 := (if u_139 ≤ 0 then (if x_147 < x2 then ((w_78.2.1 (x_147 : Int32).toNatClampNeg)) else (if (x2 + x1) ≤ x_147 then ((w_78.2.1 (x_147 : Int32).toNatClampNeg)) else ((g_18.1 ((x_147 - x2) : Int32).toNatClampNeg)))) else (0)); let x_195 := w_78.2.2.2.2.1 + 1; let x_202 := (m_193 >>> (4 &&& 31)); let x_209 := (m_193 &&& 15); let m_231 : Int32 := (if u_139 = 0 then (if x_202 ≤ 9 then (u_139) else (let u_228 := fX12_meet 7 u_139; u_228)) else (u_139)); let m_243 : Int32 := (if x_209 ≤ 9 then (0) else (1)); let m_269 : Int32 := (if m_243 = 0 then (0) else (if x_209 = 11 then (0) else (if x_209 = 13 then (0) else (1)))); let m_282 : Int32 := (if m_243 = 0 then (x_209) else ((-1))); (m_231, m_282, m_269, m_243, x_202, x_195)) : (Int32 × Int32 × Int32 × Int32 × Int32 × Int32)) → ∀ (H : Heap) (locs : List Loc), va_P D vwCl (wX12_edit cI cB a_mo a_mem a_mks a_mr a_cnt a_wd a_one a_two a_mmade a_mrest a_old v_thrown v_mask v_key v_wait v_problem v_code v_length v_cond v_masks v_addr v_mwanted m_290.1 v_after v_calls v_oneB v_twoB w_78.2.1 v_mkF v_mrF g_18.1) H → va_D A (wX12_edit cI cB a_mo a_mem a_mks a_mr a_cnt a_wd a_one a_two a_mmade a_mrest a_old v_thrown v_mask v_key v_wait v_problem v_code v_length v_cond v_masks v_addr v_mwanted m_290.1 v_after v_calls v_oneB v_twoB w_78.2.1 v_mkF v_mrF g_18.1) → va_S A s.heap H locs → ∀ (ls : Array Slot), lv_has ls 18 [(0, .ref a_mo), (1, .int x0), (2, .int x1), (3, .int x2), (4, .int x3), (5, .int x_52), (6, .int w_78.2.2.1), (7, .int m_290.2.1), (8, .int m_290.2.2.2.2.2), (9, .int w_78.2.2.2.2.2.1), (10, .int w_78.2.2.2.2.2.2.1), (11, .int w_78.2.2.2.2.2.2.2), (12, .int x_100), (13, .int m_290.2.2.2.2.1), (14, .int m_290.2.2.2.1), (15, .int m_290.2.2.1)] → W p l e rmX12_edit s m ([.ref a_mo, .int x0, .int x1, .int x2, .int x3] : List Value).toArray below meth c H locs 0 0 (MQ below (qX12_edit D cI cB a_mo a_mem a_mks a_mr a_cnt a_wd a_one a_two a_mmade a_mrest a_old v_thrown v_mask v_key v_wait v_problem v_code v_length v_cond v_masks v_addr v_mwanted v_wrong v_after v_calls v_oneB v_twoB v_mF v_mkF v_mrF v_oldF x0 x1 x2 x3 A) ([.ref a_mo, .int x0, .int x1, .int x2, .int x3] : List Value).toArray s 0 0 A) (F0 m 290 ls []) := by
                    intro m_290 em_290 H locs hP hD hS ls hl
                    try dsimp only at em_290
                    refine lv_iload_n hx hb dX12_edit_290 rfl (lv_at hl 1 rfl) ?_
                    have J_316 : ∀ (m_316 : Int32), m_316 = (if x0 = 0 then (w_78.2.2.2.2.2.1) else (if m_290.2.2.2.2.1 = 0 then (w_78.2.2.2.2.2.1) else (if w_78.2.2.1 = 0 then (let x_314 := ((w_78.2.2.2.2.2.1 &&& (-16777216 : Int32)) ||| (x2 + w_78.2.2.2.2.2.2.2)); x_314) else (w_78.2.2.2.2.2.1)))) → ∀ (H : Heap) (locs : List Loc), va_P D vwCl (wX12_edit cI cB a_mo a_mem a_mks a_mr a_cnt a_wd a_one a_two a_mmade a_mrest a_old v_thrown v_mask v_key v_wait v_problem v_code v_length v_cond v_masks v_addr v_mwanted m_290.1 v_after v_calls v_oneB v_twoB w_78.2.1 v_mkF v_mrF g_18.1) H → va_D A (wX12_edit cI cB a_mo a_mem a_mks a_mr a_cnt a_wd a_one a_two a_mmade a_mrest a_old v_thrown v_mask v_key v_wait v_problem v_code v_length v_cond v_masks v_addr v_mwanted m_290.1 v_after v_calls v_oneB v_twoB w_78.2.1 v_mkF v_mrF g_18.1) → va_S A s.heap H locs → ∀ (ls : Array Slot), lv_has ls 18 [(0, .ref a_mo), (1, .int x0), (2, .int x1), (3, .int x2), (4, .int x3), (5, .int x_52), (6, .int w_78.2.2.1), (7, .int m_290.2.1), (8, .int m_290.2.2.2.2.2), (9, .int m_316), (10, .int w_78.2.2.2.2.2.2.1), (11, .int w_78.2.2.2.2.2.2.2), (12, .int x_100), (13, .int m_290.2.2.2.2.1), (14, .int m_290.2.2.2.1), (15, .int m_290.2.2.1)] → W p l e rmX12_edit s m ([.ref a_mo, .int x0, .int x1, .int x2, .int x3] : List Value).toArray below meth c H locs 0 0 (MQ below (qX12_edit D cI cB a_mo a_mem a_mks a_mr a_cnt a_wd a_one a_two a_mmade a_mrest a_old v_thrown v_mask v_key v_wait v_problem v_code v_length v_cond v_masks v_addr v_mwanted v_wrong v_after v_calls v_oneB v_twoB v_mF v_mkF v_mrF v_oldF x0 x1 x2 x3 A) ([.ref a_mo, .int x0, .int x1, .int x2, .int x3] : List Value).toArray s 0 0 A) (F0 m 316 ls []) := by
                      intro m_316 em_316 H locs hP hD hS ls hl
                      try dsimp only at em_316
                      refine lv_aload_n hx hb dX12_edit_316 rfl (lv_at hl 0 rfl) ?_
                      refine va_get (D := D) (ci := 12) (v := .ref a_mem) (C := RX12) (T := TX12) (N := 26) hx hb hts in_X12 hown hK hP 0 rfl rfl 1 (by decide) q_2 (fun _ h9 => h9) rfl dX12_edit_317 ?_
                      refine lv_iload_n hx hb dX12_edit_320 rfl (lv_at hl 3 rfl) ?_
                      refine lv_iload hx hb dX12_edit_321 (lv_at hl 11 rfl) ?_
                      refine lv_iadd hx hb dX12_edit_323 ?_
                      refine lv_iload hx hb dX12_edit_324 (lv_at hl 13 rfl) ?_
                      have J_345 : ∀ (m_345 : Int32), m_345 = (if m_290.2.2.2.2.1 = 0 then (if w_78.2.2.1 = 0 then (x_52) else ((240 ||| m_290.2.2.2.2.1))) else ((240 ||| m_290.2.2.2.2.1))) → ∀ (H : Heap) (locs : List Loc), va_P D vwCl (wX12_edit cI cB a_mo a_mem a_mks a_mr a_cnt a_wd a_one a_two a_mmade a_mrest a_old v_thrown v_mask v_key v_wait v_problem v_code v_length v_cond v_masks v_addr v_mwanted m_290.1 v_after v_calls v_oneB v_twoB w_78.2.1 v_mkF v_mrF g_18.1) H → va_D A (wX12_edit cI cB a_mo a_mem a_mks a_mr a_cnt a_wd a_one a_two a_mmade a_mrest a_old v_thrown v_mask v_key v_wait v_problem v_code v_length v_cond v_masks v_addr v_mwanted m_290.1 v_after v_calls v_oneB v_twoB w_78.2.1 v_mkF v_mrF g_18.1) → va_S A s.heap H locs → ∀ (ls : Array Slot), lv_has ls 18 [(0, .ref a_mo), (1, .int x0), (2, .int x1), (3, .int x2), (4, .int x3), (5, .int x_52), (6, .int w_78.2.2.1), (7, .int m_290.2.1), (8, .int m_290.2.2.2.2.2), (9, .int m_316), (10, .int w_78.2.2.2.2.2.2.1), (11, .int w_78.2.2.2.2.2.2.2), (12, .int x_100), (13, .int m_290.2.2.2.2.1), (14, .int m_290.2.2.2.1), (15, .int m_290.2.2.1)] → W p l e rmX12_edit s m ([.ref a_mo, .int x0, .int x1, .int x2, .int x3] : List Value).toArray below meth c H locs 0 0 (MQ below (qX12_edit D cI cB a_mo a_mem a_mks a_mr a_cnt a_wd a_one a_two a_mmade a_mrest a_old v_thrown v_mask v_key v_wait v_problem v_code v_length v_cond v_masks v_addr v_mwanted v_wrong v_after v_calls v_oneB v_twoB v_mF v_mkF v_mrF v_oldF x0 x1 x2 x3 A) ([.ref a_mo, .int x0, .int x1, .int x2, .int x3] : List Value).toArray s 0 0 A) (F0 m 345 ls [.int m_345, .int (x2 + w_78.2.2.2.2.2.2.2), .ref a_mem]) := by
                        intro m_345 em_345 H locs hP hD hS ls hl
                        try dsimp only at em_345
                        refine va_iast hx hb hK hP hD hS 1 0 rfl rfl (inM_at hIn hI9 c_81) dX12_edit_345 (fun H locs hP hD hS => ?_)
                        obtain ⟨f_345, ef_345⟩ : ∃ z : Nat → Int32, z = upd w_78.2.1 ((x2 + w_78.2.2.2.2.2.2.2) : Int32).toNatClampNeg (m_345) := ⟨_, rfl⟩
                        have hP : va_P D vwCl (wX12_edit cI cB a_mo a_mem a_mks a_mr a_cnt a_wd a_one a_two a_mmade a_mrest a_old v_thrown v_mask v_key v_wait v_problem v_code v_length v_cond v_masks v_addr v_mwanted m_290.1 v_after v_calls v_oneB v_twoB (upd w_78.2.1 ((x2 + w_78.2.2.2.2.2.2.2) : Int32).toNatClampNeg (m_345)) v_mkF v_mrF g_18.1) H := hP
                        have hD : va_D A (wX12_edit cI cB a_mo a_mem a_mks a_mr a_cnt a_wd a_one a_two a_mmade a_mrest a_old v_thrown v_mask v_key v_wait v_problem v_code v_length v_cond v_masks v_addr v_mwanted m_290.1 v_after v_calls v_oneB v_twoB (upd w_78.2.1 ((x2 + w_78.2.2.2.2.2.2.2) : Int32).toNatClampNeg (m_345)) v_mkF v_mrF g_18.1) := hD
                        rw [← ef_345] at hP hD
                        refine lv_iload hx hb dX12_edit_346 (lv_at hl 10 rfl) ?_
                        have J_361 : ∀ (m_361 : Int32), m_361 = (if w_78.2.2.2.2.2.2.1 = 0 then (if m_290.2.2.2.2.1 = 0 then (0) else (1)) else (1)) → ∀ (H : Heap) (locs : List Loc), va_P D vwCl (wX12_edit cI cB a_mo a_mem a_mks a_mr a_cnt a_wd a_one a_two a_mmade a_mrest a_old v_thrown v_mask v_key v_wait v_problem v_code v_length v_cond v_masks v_addr v_mwanted m_290.1 v_after v_calls v_oneB v_twoB f_345 v_mkF v_mrF g_18.1) H → va_D A (wX12_edit cI cB a_mo a_mem a_mks a_mr a_cnt a_wd a_one a_two a_mmade a_mrest a_old v_thrown v_mask v_key v_wait v_problem v_code v_length v_cond v_masks v_addr v_mwanted m_290.1 v_after v_calls v_oneB v_twoB f_345 v_mkF v_mrF g_18.1) → va_S A s.heap H locs → ∀ (ls : Array Slot), lv_has ls 18 [(0, .ref a_mo), (1, .int x0), (2, .int x1), (3, .int x2), (4, .int x3), (5, .int x_52), (6, .int w_78.2.2.1), (7, .int m_290.2.1), (8, .int m_290.2.2.2.2.2), (9, .int m_316), (10, .int w_78.2.2.2.2.2.2.1), (11, .int w_78.2.2.2.2.2.2.2), (12, .int x_100), (13, .int m_290.2.2.2.2.1), (14, .int m_290.2.2.2.1), (15, .int m_290.2.2.1)] → W p l e rmX12_edit s m ([.ref a_mo, .int x0, .int x1, .int x2, .int x3] : List Value).toArray below meth c H locs 0 0 (MQ below (qX12_edit D cI cB a_mo a_mem a_mks a_mr a_cnt a_wd a_one a_two a_mmade a_mrest a_old v_thrown v_mask v_key v_wait v_problem v_code v_length v_cond v_masks v_addr v_mwanted v_wrong v_after v_calls v_oneB v_twoB v_mF v_mkF v_mrF v_oldF x0 x1 x2 x3 A) ([.ref a_mo, .int x0, .int x1, .int x2, .int x3] : List Value).toArray s 0 0 A) (F0 m 361 ls [.int m_361]) := by
                          intro m_361 em_361 H locs hP hD hS ls hl
                          try dsimp only at em_361
                          have zm_361_0 : m_361 = 0 ∨ m_361 = 1 := by rw [em_361]; (try dsimp only); (repeat' split) <;> first | exact Or.inl rfl | exact Or.inr rfl
                          refine lv_istore (lv' := [(10, .int m_361), (0, .ref a_mo), (1, .int x0), (2, .int x1), (3, .int x2), (4, .int x3), (5, .int x_52), (6, .int w_78.2.2.1), (7, .int m_290.2.1), (8, .int m_290.2.2.2.2.2), (9, .int m_316), (11, .int w_78.2.2.2.2.2.2.2), (12, .int x_100), (13, .int m_290.2.2.2.2.1), (14, .int m_290.2.2.2.1), (15, .int m_290.2.2.1)]) hx hb dX12_edit_361 hl (by decide) rfl (fun ls hl => ?_)
                          refine lv_iload hx hb dX12_edit_363 (lv_at hl 7 rfl) ?_
                          have J_390 : ∀ (m_390 : Int32), m_390 = (if w_78.2.2.1 = 0 then (if m_290.2.2.1 = 0 then (1) else (0)) else (if m_290.2.2.1 = 0 then (1) else (0))) → ∀ (H : Heap) (locs : List Loc), va_P D vwCl (wX12_edit cI cB a_mo a_mem a_mks a_mr a_cnt a_wd a_one a_two a_mmade a_mrest a_old v_thrown v_mask v_key v_wait v_problem v_code v_length v_cond v_masks v_addr v_mwanted m_290.1 v_after v_calls v_oneB v_twoB f_345 v_mkF v_mrF g_18.1) H → va_D A (wX12_edit cI cB a_mo a_mem a_mks a_mr a_cnt a_wd a_one a_two a_mmade a_mrest a_old v_thrown v_mask v_key v_wait v_problem v_code v_length v_cond v_masks v_addr v_mwanted m_290.1 v_after v_calls v_oneB v_twoB f_345 v_mkF v_mrF g_18.1) → va_S A s.heap H locs → ∀ (ls : Array Slot), lv_has ls 18 [(0, .ref a_mo), (1, .int x0), (2, .int x1), (3, .int x2), (4, .int x3), (5, .int x_52), (6, .int w_78.2.2.1), (7, .int m_290.2.1), (8, .int m_290.2.2.2.2.2), (9, .int m_316), (10, .int m_361), (11, .int w_78.2.2.2.2.2.2.2), (12, .int x_100), (13, .int m_290.2.2.2.2.1), (14, .int m_290.2.2.2.1), (15, .int m_290.2.2.1)] → W p l e rmX12_edit s m ([.ref a_mo, .int x0, .int x1, .int x2, .int x3] : List Value).toArray below meth c H locs 0 0 (MQ below (qX12_edit D cI cB a_mo a_mem a_mks a_mr a_cnt a_wd a_one a_two a_mmade a_mrest a_old v_thrown v_mask v_key v_wait v_problem v_code v_length v_cond v_masks v_addr v_mwanted v_wrong v_after v_calls v_oneB v_twoB v_mF v_mkF v_mrF v_oldF x0 x1 x2 x3 A) ([.ref a_mo, .int x0, .int x1, .int x2, .int x3] : List Value).toArray s 0 0 A) (F0 m 390 ls [.int m_390]) := by
                            intro m_390 em_390 H locs hP hD hS ls hl
                            try dsimp only at em_390
                            have zm_390_0 : m_390 = 0 ∨ m_390 = 1 := by rw [em_390]; (try dsimp only); (repeat' split) <;> first | exact Or.inl rfl | exact Or.inr rfl
                            refine lv_istore (lv' := [(6, .int m_390), (0, .ref a_mo), (1, .int x0), (2, .int x1), (3, .int x2), (4, .int x3), (5, .int x_52), (7, .int m_290.2.1), (8, .int m_290.2.2.2.2.2), (9, .int m_316), (10, .int m_361), (11, .int w_78.2.2.2.2.2.2.2), (12, .int x_100), (13, .int m_290.2.2.2.2.1), (14, .int m_290.2.2.2.1), (15, .int m_290.2.2.1)]) hx hb dX12_edit_390 hl (by decide) rfl (fun ls hl => ?_)
                            refine lv_goto (tgt := 448) hx hb dX12_edit_392 (by decide) ?_
                            exact J_448 (m_290.1, f_345, m_390, m_290.2.1, m_290.2.2.2.2.2, m_316, m_361) (by subst ef_345; (try simp only [← em_290, ← em_316, ← em_345, ← em_361, ← em_390]); (try simp only [if_neg c_106, if_pos c_113])) _ _ hP hD hS ls (lv_sub hl [1, 2, 3, 4, 5, 6, 0, 7, 8, 9, 10, 11, 12] rfl)
                          refine lv_if_ne (tgt := 380) hx hb dX12_edit_365 (by decide) (fun c_365 => ?_) (fun c_365 => ?_)
                          · skip
                            refine lv_iload hx hb dX12_edit_380 (lv_at hl 15 rfl) ?_
                            refine lv_if_ne (tgt := 389) hx hb dX12_edit_382 (by decide) (fun c_382 => ?_) (fun c_382 => ?_)
                            · skip
                              refine lv_iconst (v := 0) hx hb dX12_edit_389 (by decide) ?_
                              exact J_390 0 (by (try simp only [if_neg c_365, if_neg c_382])) _ _ hP hD hS ls (lv_sub hl [1, 2, 3, 4, 5, 6, 7, 8, 9, 10, 0, 11, 12, 13, 14, 15] rfl)
                            · skip
                              refine lv_iconst (v := 1) hx hb dX12_edit_385 (by decide) ?_
                              refine lv_goto (tgt := 390) hx hb dX12_edit_386 (by decide) ?_
                              exact J_390 1 (by (try simp only [if_neg c_365, if_pos c_382])) _ _ hP hD hS ls (lv_sub hl [1, 2, 3, 4, 5, 6, 7, 8, 9, 10, 0, 11, 12, 13, 14, 15] rfl)
                          · skip
                            refine lv_iload hx hb dX12_edit_368 (lv_at hl 12 rfl) ?_
                            refine lv_bipush (v := 33) hx hb dX12_edit_370 (by decide) ?_
                            refine lv_icmp_eq (tgt := 380) hx hb dX12_edit_372 (by decide) (fun c_372 => ?_) (fun c_372 => ?_)
                            · skip
                              refine lv_iload hx hb dX12_edit_380 (lv_at hl 15 rfl) ?_
                              refine lv_if_ne (tgt := 389) hx hb dX12_edit_382 (by decide) (fun c_382 => ?_) (fun c_382 => ?_)
                              · skip
                                refine lv_iconst (v := 0) hx hb dX12_edit_389 (by decide) ?_
                                exact J_390 0 (by (try simp only [if_pos c_365, if_neg c_382])) _ _ hP hD hS ls (lv_sub hl [1, 2, 3, 4, 5, 6, 7, 8, 9, 10, 0, 11, 12, 13, 14, 15] rfl)
                              · skip
                                refine lv_iconst (v := 1) hx hb dX12_edit_385 (by decide) ?_
                                refine lv_goto (tgt := 390) hx hb dX12_edit_386 (by decide) ?_
                                exact J_390 1 (by (try simp only [if_pos c_365, if_pos c_382])) _ _ hP hD hS ls (lv_sub hl [1, 2, 3, 4, 5, 6, 7, 8, 9, 10, 0, 11, 12, 13, 14, 15] rfl)
                            · skip
                              exact absurd c_113 c_372
                        refine lv_if_ne (tgt := 356) hx hb dX12_edit_348 (by decide) (fun c_348 => ?_) (fun c_348 => ?_)
                        · skip
                          refine lv_iconst (v := 1) hx hb dX12_edit_356 (by decide) ?_
                          refine lv_goto (tgt := 361) hx hb dX12_edit_357 (by decide) ?_
                          exact J_361 1 (by (try simp only [if_neg c_348])) _ _ hP hD hS ls (lv_sub hl [0, 1, 2, 3, 4, 5, 6, 7, 8, 9, 10, 11, 12, 13, 14, 15] rfl)
                        · skip
                          refine lv_iload hx hb dX12_edit_351 (lv_at hl 13 rfl) ?_
                          refine lv_if_eq (tgt := 360) hx hb dX12_edit_353 (by decide) (fun c_353 => ?_) (fun c_353 => ?_)
                          · skip
                            refine lv_iconst (v := 0) hx hb dX12_edit_360 (by decide) ?_
                            exact J_361 0 (by (try simp only [if_pos c_348, if_pos c_353])) _ _ hP hD hS ls (lv_sub hl [0, 1, 2, 3, 4, 5, 6, 7, 8, 9, 10, 11, 12, 13, 14, 15] rfl)
                          · skip
                            refine lv_iconst (v := 1) hx hb dX12_edit_356 (by decide) ?_
                            refine lv_goto (tgt := 361) hx hb dX12_edit_357 (by decide) ?_
                            exact J_361 1 (by (try simp only [if_pos c_348, if_neg c_353])) _ _ hP hD hS ls (lv_sub hl [0, 1, 2, 3, 4, 5, 6, 7, 8, 9, 10, 11, 12, 13, 14, 15] rfl)
                      refine lv_if_ne (tgt := 334) hx hb dX12_edit_326 (by decide) (fun c_326 => ?_) (fun c_326 => ?_)
                      · skip
                        refine lv_sipush (v := 240) hx hb dX12_edit_334 (by decide) ?_
                        refine lv_iload hx hb dX12_edit_337 (lv_at hl 13 rfl) ?_
                        refine lv_ior hx hb dX12_edit_339 ?_
                        refine lv_goto (tgt := 345) hx hb dX12_edit_340 (by decide) ?_
                        exact J_345 (240 ||| m_290.2.2.2.2.1) (by (try simp only [if_neg c_326])) _ _ hP hD hS ls (lv_sub hl [0, 1, 2, 3, 4, 5, 6, 7, 8, 9, 10, 11, 12, 13, 14, 15] rfl)
                      · skip
                        refine lv_iload hx hb dX12_edit_329 (lv_at hl 6 rfl) ?_
                        refine lv_if_eq (tgt := 343) hx hb dX12_edit_331 (by decide) (fun c_331 => ?_) (fun c_331 => ?_)
                        · skip
                          refine lv_iload hx hb dX12_edit_343 (lv_at hl 5 rfl) ?_
                          exact J_345 x_52 (by (try simp only [if_pos c_326, if_pos c_331])) _ _ hP hD hS ls (lv_sub hl [0, 1, 2, 3, 4, 5, 6, 7, 8, 9, 10, 11, 12, 13, 14, 15] rfl)
                        · skip
                          refine lv_sipush (v := 240) hx hb dX12_edit_334 (by decide) ?_
                          refine lv_iload hx hb dX12_edit_337 (lv_at hl 13 rfl) ?_
                          refine lv_ior hx hb dX12_edit_339 ?_
                          refine lv_goto (tgt := 345) hx hb dX12_edit_340 (by decide) ?_
                          exact J_345 (240 ||| m_290.2.2.2.2.1) (by (try simp only [if_pos c_326, if_neg c_331])) _ _ hP hD hS ls (lv_sub hl [0, 1, 2, 3, 4, 5, 6, 7, 8, 9, 10, 11, 12, 13, 14, 15] rfl)
                    refine lv_if_eq (tgt := 316) hx hb dX12_edit_291 (by decide) (fun c_291 => ?_) (fun c_291 => ?_)
                    · skip
                      exact J_316 w_78.2.2.2.2.2.1 (by (try simp only [if_pos c_291])) _ _ hP hD hS ls (lv_sub hl [0, 1, 2, 3, 4, 5, 6, 7, 8, 9, 10, 11, 12, 13, 14, 15] rfl)
                    · skip
                      refine lv_iload hx hb dX12_edit_294 (lv_at hl 13 rfl) ?_
                      refine lv_if_eq (tgt := 316) hx hb dX12_edit_296 (by decide) (fun c_296 => ?_) (fun c_296 => ?_)
                      · skip
                        exact J_316 w_78.2.2.2.2.2.1 (by (try simp only [if_neg c_291, if_pos c_296])) _ _ hP hD hS ls (lv_sub hl [0, 1, 2, 3, 4, 5, 6, 7, 8, 9, 10, 11, 12, 13, 14, 15] rfl)
                      · skip
                        refine lv_iload hx hb dX12_edit_299 (lv_at hl 6 rfl) ?_
                        refine lv_if_ne (tgt := 316) hx hb dX12_edit_301 (by decide) (fun c_301 => ?_) (fun c_301 => ?_)
                        · skip
                          exact J_316 w_78.2.2.2.2.2.1 (by (try simp only [if_neg c_291, if_neg c_296, if_neg c_301])) _ _ hP hD hS ls (lv_sub hl [0, 1, 2, 3, 4, 5, 6, 7, 8, 9, 10, 11, 12, 13, 14, 15] rfl)
                        · skip
                          refine lv_iload hx hb dX12_edit_304 (lv_at hl 9 rfl) ?_
                          refine lv_ldc (v := (-16777216)) hx hb hown q_5 dX12_edit_306 ?_
                          refine lv_iand hx hb dX12_edit_308 ?_
                          refine lv_iload_n hx hb dX12_edit_309 rfl (lv_at hl 3 rfl) ?_
                          refine lv_iload hx hb dX12_edit_310 (lv_at hl 11 rfl) ?_
                          refine lv_iadd hx hb dX12_edit_312 ?_
                          refine lv_ior hx hb dX12_edit_313 ?_
                          refine lv_topi (fun x_314 ex_314 => ?_)
                          refine lv_istore (lv' := [(9, .int x_314), (0, .ref a_mo), (1, .int x0), (2, .int x1), (3, .int x2), (4, .int x3), (5, .int x_52), (6, .int w_78.2.2.1), (7, .int m_290.2.1), (8, .int m_290.2.2.2.2.2), (10, .int w_78.2.2.2.2.2.2.1), (11, .int w_78.2.2.2.2.2.2.2), (12, .int x_100), (13, .int m_290.2.2.2.2.1), (14, .int m_290.2.2.2.1), (15, .int m_290.2.2.1)]) hx hb dX12_edit_314 hl (by decide) rfl (fun ls hl => ?_)
                          exact J_316 x_314 (by subst ex_314; (try simp only [if_neg c_291, if_neg c_296, if_pos c_301])) _ _ hP hD hS ls (lv_sub hl [1, 2, 3, 4, 5, 6, 7, 8, 9, 0, 10, 11, 12, 13, 14, 15] rfl)
                  refine lv_if_ge (tgt := 287) hx hb dX12_edit_128 (by decide) (fun c_128 => ?_) (fun c_128 => ?_)
                  · skip
                    refine lv_iconst (v := (-1)) hx hb dX12_edit_287 (by decide) ?_
                    refine lv_istore (lv' := [(7, .int (-1)), (15, .int 0), (14, .int 0), (13, .int w_78.2.2.2.1), (12, .int x_100), (0, .ref a_mo), (1, .int x0), (2, .int x1), (3, .int x2), (4, .int x3), (5, .int x_52), (6, .int w_78.2.2.1), (8, .int w_78.2.2.2.2.1), (9, .int w_78.2.2.2.2.2.1), (10, .int w_78.2.2.2.2.2.2.1), (11, .int w_78.2.2.2.2.2.2.2)]) hx hb dX12_edit_288 hl (by decide) rfl (fun ls hl => ?_)
                    exact J_290 (w_78.1, (-1), 0, 0, w_78.2.2.2.1, w_78.2.2.2.2.1) (by (try simp only [if_pos c_128])) _ _ hP hD hS ls (lv_sub hl [5, 6, 7, 8, 9, 10, 11, 0, 12, 13, 14, 15, 4, 3, 2, 1] rfl)
                  · skip
                    refine lv_aload_n hx hb dX12_edit_131 rfl (lv_at hl 4 rfl) ?_
                    refine lv_iload hx hb dX12_edit_132 (lv_at hl 12 rfl) ?_
                    refine lv_ldc (v := 16777215) hx hb hown q_4 dX12_edit_134 ?_
                    refine lv_iand hx hb dX12_edit_136 ?_
                    refine lv_iconst (v := 1) hx hb dX12_edit_137 (by decide) ?_
                    refine lv_iconst (v := 0) hx hb dX12_edit_138 (by decide) ?_
                    have hPc : va_P D vwCl (wX12_look cI cB a_mo a_mem a_mks a_mr a_cnt a_wd a_one a_two a_mmade a_mrest a_old v_thrown v_mask v_key v_wait v_problem v_code v_length v_cond v_masks v_addr v_mwanted w_78.1 v_after v_calls v_oneB v_twoB v_mkF) H := hP.sub [0, 2] rfl
                    have hDc : va_D A (wX12_look cI cB a_mo a_mem a_mks a_mr a_cnt a_wd a_one a_two a_mmade a_mrest a_old v_thrown v_mask v_key v_wait v_problem v_code v_length v_cond v_masks v_addr v_mwanted w_78.1 v_after v_calls v_oneB v_twoB v_mkF) := hD.sub [0, 2] (by decide) rfl
                    have hFc := va_free (wc := (wX12_look cI cB a_mo a_mem a_mks a_mr a_cnt a_wd a_one a_two a_mmade a_mrest a_old v_thrown v_mask v_key v_wait v_problem v_code v_length v_cond v_masks v_addr v_mwanted w_78.1 v_after v_calls v_oneB v_twoB v_mkF)) hD hS hA [0, 2] rfl
                    refine va_callv (va_runV (As := [.int (w_78.2.2.2.2.1 &&& 16777215), .int 1, .int 0]) (rest := []) ⟨hx, hb, hml, hown, hts⟩ (kX12_look l D cI cB a_mo a_mem a_mks a_mr a_cnt a_wd a_one a_two a_mmade a_mrest a_old H.size v_thrown v_mask v_key v_wait v_problem v_code v_length v_cond v_masks v_addr v_mwanted w_78.1 v_after v_calls v_oneB v_twoB v_mkF (w_78.2.2.2.2.1 &&& 16777215) 1 0) (cwV 3 hts (gd_V wd_857 wd_858 wd_859 wd_807 wd_837) rfl rfl rfl hdX12_look ⟨Nat.le_of_ble_eq_true rfl, Nat.le_of_ble_eq_true rfl⟩) (preV_std (ci := 12) (q0 := 0) hPc hK hDc hNW rfl rfl) rfl rfl hl.1 rfl (lv_room (Nat.le_of_ble_eq_true rfl)) dX12_edit_139 ⟨Nat.zero_le _, Nat.zero_le _⟩) hS (fun q _ h => hFc q h) hFc (fun u_139 t9 H1 locs ht9 hvm9 hw9 hB9 hz9 hk9 hS => ?_)
                    have eu_139 : u_139 = fX12_look (w_78.2.2.2.2.1 &&& 16777215) 1 0 v_key w_78.1 v_mkF := hw9
                    obtain ⟨hP, hD⟩ := back_std (w1 := (wX12_look cI cB a_mo a_mem a_mks a_mr a_cnt a_wd a_one a_two a_mmade a_mrest a_old v_thrown v_mask v_key v_wait v_problem v_code v_length v_cond v_masks v_addr v_mwanted u_139 v_after v_calls v_oneB v_twoB v_mkF)) (w2 := (wX12_edit cI cB a_mo a_mem a_mks a_mr a_cnt a_wd a_one a_two a_mmade a_mrest a_old v_thrown v_mask v_key v_wait v_problem v_code v_length v_cond v_masks v_addr v_mwanted u_139 v_after v_calls v_oneB v_twoB w_78.2.1 v_mkF v_mrF g_18.1)) (wr := [(a_mem, .inl (cI, 8192, .inl w_78.2.1)), (a_mr, .inl (cI, 16, .inl v_mrF)), (a_old, .inl (cI, 512, .inl g_18.1))]) hP hD [0, 2] [1, 3, 4] [3, 0, 4, 1, 2] rfl rfl (by decide) (by decide) hk9 hFc hB9 ht9 (by decide) rfl
                    clear hB9 hk9 hz9 hvm9 ht9 hFc hPc hDc
                    generalize H1 = H at hP hS ⊢
                    refine lv_iload hx hb dX12_edit_142 (lv_at hl 12 rfl) ?_
                    refine lv_ldc (v := 16777215) hx hb hown q_4 dX12_edit_144 ?_
                    refine lv_iand hx hb dX12_edit_146 ?_
                    refine lv_topi (fun x_147 ex_147 => ?_)
                    refine lv_istore (lv' := [(16, .int x_147), (15, .int 0), (14, .int 0), (13, .int w_78.2.2.2.1), (12, .int x_100), (0, .ref a_mo), (1, .int x0), (2, .int x1), (3, .int x2), (4, .int x3), (5, .int x_52), (6, .int w_78.2.2.1), (7, .int w_78.2.2.2.1), (8, .int w_78.2.2.2.2.1), (9, .int w_78.2.2.2.2.2.1), (10, .int w_78.2.2.2.2.2.2.1), (11, .int w_78.2.2.2.2.2.2.2)]) hx hb dX12_edit_147 hl (by decide) rfl (fun ls hl => ?_)
                    refine lv_aload_n hx hb dX12_edit_149 rfl (lv_at hl 5 rfl) ?_
                    refine va_get (D := D) (ci := 12) (v := .int u_139) (C := RX12) (T := TX12) (N := 26) hx hb hts in_X12 hown hK hP 0 rfl rfl 16 (by decide) q_0 (fun _ h9 => h9) rfl dX12_edit_150 ?_
                    have J_193 : ∀ (m_193 : Int32), m_193 = (if u_139 ≤ 0 then (if x_147 < x2 then ((w_78.2.1 (x_147 : Int32).toNatClampNeg)) else (if (x2 + x1) ≤ x_147 then ((w_78.2.1 (x_147 : Int32).toNatClampNeg)) else ((g_18.1 ((x_147 - x2) : Int32).toNatClampNeg)))) else (0)) → ∀ (H : Heap) (locs : List Loc), va_P D vwCl (wX12_edit cI cB a_mo a_mem a_mks a_mr a_cnt a_wd a_one a_two a_mmade a_mrest a_old v_thrown v_mask v_key v_wait v_problem v_code v_length v_cond v_masks v_addr v_mwanted u_139 v_after v_calls v_oneB v_twoB w_78.2.1 v_mkF v_mrF g_18.1) H → va_D A (wX12_edit cI cB a_mo a_mem a_mks a_mr a_cnt a_wd a_one a_two a_mmade a_mrest a_old v_thrown v_mask v_key v_wait v_problem v_code v_length v_cond v_masks v_addr v_mwanted u_139 v_after v_calls v_oneB v_twoB w_78.2.1 v_mkF v_mrF g_18.1) → va_S A s.heap H locs → ∀ (ls : Array Slot), lv_has ls 18 [(0, .ref a_mo), (1, .int x0), (2, .int x1), (3, .int x2), (4, .int x3), (5, .int x_52), (6, .int w_78.2.2.1), (7, .int w_78.2.2.2.1), (8, .int w_78.2.2.2.2.1), (9, .int w_78.2.2.2.2.2.1), (10, .int w_78.2.2.2.2.2.2.1), (11, .int w_78.2.2.2.2.2.2.2), (12, .int x_100), (13, .int w_78.2.2.2.1), (14, .int 0), (15, .int 0), (16, .int x_147)] → W p l e rmX12_edit s m ([.ref a_mo, .int x0, .int x1, .int x2, .int x3] : List Value).toArray below meth c H locs 0 0 (MQ below (qX12_edit D cI cB a_mo a_mem a_mks a_mr a_cnt a_wd a_one a_two a_mmade a_mrest a_old v_thrown v_mask v_key v_wait v_problem v_code v_length v_cond v_masks v_addr v_mwanted v_wrong v_after v_calls v_oneB v_twoB v_mF v_mkF v_mrF v_oldF x0 x1 x2 x3 A) ([.ref a_mo, .int x0, .int x1, .int x2, .int x3] : List Value).toArray s 0 0 A) (F0 m 193 ls [.int m_193]) := by
                      intro m_193 em_193 H locs hP hD hS ls hl
                      try dsimp only at em_193
                      refine lv_istore (lv' := [(17, .int m_193), (0, .ref a_mo), (1, .int x0), (2, .int x1), (3, .int x2), (4, .int x3), (5, .int x_52), (6, .int w_78.2.2.1), (7, .int w_78.2.2.2.1), (8, .int w_78.2.2.2.2.1), (9, .int w_78.2.2.2.2.2.1), (10, .int w_78.2.2.2.2.2.2.1), (11, .int w_78.2.2.2.2.2.2.2), (12, .int x_100), (13, .int w_78.2.2.2.1), (14, .int 0), (15, .int 0), (16, .int x_147)]) hx hb dX12_edit_193 hl (by decide) rfl (fun ls hl => ?_)
                      obtain ⟨x_195, ex_195⟩ : ∃ z : Int32, z = w_78.2.2.2.2.1 + 1 := ⟨_, rfl⟩
                      refine lv_iinc (v := x_195) (lv' := [(8, .int x_195), (17, .int m_193), (0, .ref a_mo), (1, .int x0), (2, .int x1), (3, .int x2), (4, .int x3), (5, .int x_52), (6, .int w_78.2.2.1), (7, .int w_78.2.2.2.1), (9, .int w_78.2.2.2.2.2.1), (10, .int w_78.2.2.2.2.2.2.1), (11, .int w_78.2.2.2.2.2.2.2), (12, .int x_100), (13, .int w_78.2.2.2.1), (14, .int 0), (15, .int 0), (16, .int x_147)]) hx hb dX12_edit_195 hl (k := 9) rfl (by rw [ex_195]; rfl) (by decide) rfl (fun ls hl => ?_)
                      refine lv_iload hx hb dX12_edit_198 (lv_at hl 1 rfl) ?_
                      refine lv_iconst (v := 4) hx hb dX12_edit_200 (by decide) ?_
                      refine lv_ishr hx hb dX12_edit_201 ?_
                      refine lv_topi (fun x_202 ex_202 => ?_)
                      refine lv_istore (lv' := [(13, .int x_202), (8, .int x_195), (17, .int m_193), (0, .ref a_mo), (1, .int x0), (2, .int x1), (3, .int x2), (4, .int x3), (5, .int x_52), (6, .int w_78.2.2.1), (7, .int w_78.2.2.2.1), (9, .int w_78.2.2.2.2.2.1), (10, .int w_78.2.2.2.2.2.2.1), (11, .int w_78.2.2.2.2.2.2.2), (12, .int x_100), (14, .int 0), (15, .int 0), (16, .int x_147)]) hx hb dX12_edit_202 hl (by decide) rfl (fun ls hl => ?_)
                      refine lv_iload hx hb dX12_edit_204 (lv_at hl 2 rfl) ?_
                      refine lv_bipush (v := 15) hx hb dX12_edit_206 (by decide) ?_
                      refine lv_iand hx hb dX12_edit_208 ?_
                      refine lv_topi (fun x_209 ex_209 => ?_)
                      refine lv_istore (lv' := [(7, .int x_209), (13, .int x_202), (8, .int x_195), (17, .int m_193), (0, .ref a_mo), (1, .int x0), (2, .int x1), (3, .int x2), (4, .int x3), (5, .int x_52), (6, .int w_78.2.2.1), (9, .int w_78.2.2.2.2.2.1), (10, .int w_78.2.2.2.2.2.2.1), (11, .int w_78.2.2.2.2.2.2.2), (12, .int x_100), (14, .int 0), (15, .int 0), (16, .int x_147)]) hx hb dX12_edit_209 hl (by decide) rfl (fun ls hl => ?_)
                      refine lv_aload_n hx hb dX12_edit_211 rfl (lv_at hl 4 rfl) ?_
                      refine va_get (D := D) (ci := 12) (v := .int u_139) (C := RX12) (T := TX12) (N := 26) hx hb hts in_X12 hown hK hP 0 rfl rfl 16 (by decide) q_0 (fun _ h9 => h9) rfl dX12_edit_212 ?_
                      have J_231 : ∀ (m_231 : Int32), m_231 = (if u_139 = 0 then (if x_202 ≤ 9 then (u_139) else (let u_228 := fX12_meet 7 u_139; u_228)) else (u_139)) → ∀ (H : Heap) (locs : List Loc), va_P D vwCl (wX12_edit cI cB a_mo a_mem a_mks a_mr a_cnt a_wd a_one a_two a_mmade a_mrest a_old v_thrown v_mask v_key v_wait v_problem v_code v_length v_cond v_masks v_addr v_mwanted m_231 v_after v_calls v_oneB v_twoB w_78.2.1 v_mkF v_mrF g_18.1) H → va_D A (wX12_edit cI cB a_mo a_mem a_mks a_mr a_cnt a_wd a_one a_two a_mmade a_mrest a_old v_thrown v_mask v_key v_wait v_problem v_code v_length v_cond v_masks v_addr v_mwanted m_231 v_after v_calls v_oneB v_twoB w_78.2.1 v_mkF v_mrF g_18.1) → va_S A s.heap H locs → ∀ (ls : Array Slot), lv_has ls 18 [(0, .ref a_mo), (1, .int x0), (2, .int x1), (3, .int x2), (4, .int x3), (5, .int x_52), (6, .int w_78.2.2.1), (7, .int x_209), (8, .int x_195), (9, .int w_78.2.2.2.2.2.1), (10, .int w_78.2.2.2.2.2.2.1), (11, .int w_78.2.2.2.2.2.2.2), (12, .int x_100), (13, .int x_202), (14, .int 0), (15, .int 0), (16, .int x_147), (17, .int m_193)] → W p l e rmX12_edit s m ([.ref a_mo, .int x0, .int x1, .int x2, .int x3] : List Value).toArray below meth c H locs 0 0 (MQ below (qX12_edit D cI cB a_mo a_mem a_mks a_mr a_cnt a_wd a_one a_two a_mmade a_mrest a_old v_thrown v_mask v_key v_wait v_problem v_code v_length v_cond v_masks v_addr v_mwanted v_wrong v_after v_calls v_oneB v_twoB v_mF v_mkF v_mrF v_oldF x0 x1 x2 x3 A) ([.ref a_mo, .int x0, .int x1, .int x2, .int x3] : List Value).toArray s 0 0 A) (F0 m 231 ls []) := by
                        intro m_231 em_231 H locs hP hD hS ls hl
                        try dsimp only at em_231
                        refine lv_iload hx hb dX12_edit_231 (lv_at hl 7 rfl) ?_
                        refine lv_bipush (v := 9) hx hb dX12_edit_233 (by decide) ?_
                        have J_243 : ∀ (m_243 : Int32), m_243 = (if x_209 ≤ 9 then (0) else (1)) → ∀ (H : Heap) (locs : List Loc), va_P D vwCl (wX12_edit cI cB a_mo a_mem a_mks a_mr a_cnt a_wd a_one a_two a_mmade a_mrest a_old v_thrown v_mask v_key v_wait v_problem v_code v_length v_cond v_masks v_addr v_mwanted m_231 v_after v_calls v_oneB v_twoB w_78.2.1 v_mkF v_mrF g_18.1) H → va_D A (wX12_edit cI cB a_mo a_mem a_mks a_mr a_cnt a_wd a_one a_two a_mmade a_mrest a_old v_thrown v_mask v_key v_wait v_problem v_code v_length v_cond v_masks v_addr v_mwanted m_231 v_after v_calls v_oneB v_twoB w_78.2.1 v_mkF v_mrF g_18.1) → va_S A s.heap H locs → ∀ (ls : Array Slot), lv_has ls 18 [(0, .ref a_mo), (1, .int x0), (2, .int x1), (3, .int x2), (4, .int x3), (5, .int x_52), (6, .int w_78.2.2.1), (7, .int x_209), (8, .int x_195), (9, .int w_78.2.2.2.2.2.1), (10, .int w_78.2.2.2.2.2.2.1), (11, .int w_78.2.2.2.2.2.2.2), (12, .int x_100), (13, .int x_202), (14, .int 0), (15, .int 0), (16, .int x_147), (17, .int m_193)] → W p l e rmX12_edit s m ([.ref a_mo, .int x0, .int x1, .int x2, .int x3] : List Value).toArray below meth c H locs 0 0 (MQ below (qX12_edit D cI cB a_mo a_mem a_mks a_mr a_cnt a_wd a_one a_two a_mmade a_mrest a_old v_thrown v_mask v_key v_wait v_problem v_code v_length v_cond v_masks v_addr v_mwanted v_wrong v_after v_calls v_oneB v_twoB v_mF v_mkF v_mrF v_oldF x0 x1 x2 x3 A) ([.ref a_mo, .int x0, .int x1, .int x2, .int x3] : List Value).toArray s 0 0 A) (F0 m 243 ls [.int m_243]) := by
                          intro m_243 em_243 H locs hP hD hS ls hl
                          try dsimp only at em_243
                          have zm_243_0 : m_243 = 0 ∨ m_243 = 1 := by rw [em_243]; (try dsimp only); (repeat' split) <;> first | exact Or.inl rfl | exact Or.inr rfl
                          refine lv_istore (lv' := [(14, .int m_243), (0, .ref a_mo), (1, .int x0), (2, .int x1), (3, .int x2), (4, .int x3), (5, .int x_52), (6, .int w_78.2.2.1), (7, .int x_209), (8, .int x_195), (9, .int w_78.2.2.2.2.2.1), (10, .int w_78.2.2.2.2.2.2.1), (11, .int w_78.2.2.2.2.2.2.2), (12, .int x_100), (13, .int x_202), (15, .int 0), (16, .int x_147), (17, .int m_193)]) hx hb dX12_edit_243 hl (by decide) rfl (fun ls hl => ?_)
                          refine lv_iload hx hb dX12_edit_245 (lv_at hl 0 rfl) ?_
                          have J_269 : ∀ (m_269 : Int32), m_269 = (if m_243 = 0 then (0) else (if x_209 = 11 then (0) else (if x_209 = 13 then (0) else (1)))) → ∀ (H : Heap) (locs : List Loc), va_P D vwCl (wX12_edit cI cB a_mo a_mem a_mks a_mr a_cnt a_wd a_one a_two a_mmade a_mrest a_old v_thrown v_mask v_key v_wait v_problem v_code v_length v_cond v_masks v_addr v_mwanted m_231 v_after v_calls v_oneB v_twoB w_78.2.1 v_mkF v_mrF g_18.1) H → va_D A (wX12_edit cI cB a_mo a_mem a_mks a_mr a_cnt a_wd a_one a_two a_mmade a_mrest a_old v_thrown v_mask v_key v_wait v_problem v_code v_length v_cond v_masks v_addr v_mwanted m_231 v_after v_calls v_oneB v_twoB w_78.2.1 v_mkF v_mrF g_18.1) → va_S A s.heap H locs → ∀ (ls : Array Slot), lv_has ls 18 [(0, .ref a_mo), (1, .int x0), (2, .int x1), (3, .int x2), (4, .int x3), (5, .int x_52), (6, .int w_78.2.2.1), (7, .int x_209), (8, .int x_195), (9, .int w_78.2.2.2.2.2.1), (10, .int w_78.2.2.2.2.2.2.1), (11, .int w_78.2.2.2.2.2.2.2), (12, .int x_100), (13, .int x_202), (14, .int m_243), (15, .int 0), (16, .int x_147), (17, .int m_193)] → W p l e rmX12_edit s m ([.ref a_mo, .int x0, .int x1, .int x2, .int x3] : List Value).toArray below meth c H locs 0 0 (MQ below (qX12_edit D cI cB a_mo a_mem a_mks a_mr a_cnt a_wd a_one a_two a_mmade a_mrest a_old v_thrown v_mask v_key v_wait v_problem v_code v_length v_cond v_masks v_addr v_mwanted v_wrong v_after v_calls v_oneB v_twoB v_mF v_mkF v_mrF v_oldF x0 x1 x2 x3 A) ([.ref a_mo, .int x0, .int x1, .int x2, .int x3] : List Value).toArray s 0 0 A) (F0 m 269 ls [.int m_269]) := by
                            intro m_269 em_269 H locs hP hD hS ls hl
                            try dsimp only at em_269
                            have zm_269_0 : m_269 = 0 ∨ m_269 = 1 := by rw [em_269]; (try dsimp only); (repeat' split) <;> first | exact Or.inl rfl | exact Or.inr rfl
                            refine lv_istore (lv' := [(15, .int m_269), (0, .ref a_mo), (1, .int x0), (2, .int x1), (3, .int x2), (4, .int x3), (5, .int x_52), (6, .int w_78.2.2.1), (7, .int x_209), (8, .int x_195), (9, .int w_78.2.2.2.2.2.1), (10, .int w_78.2.2.2.2.2.2.1), (11, .int w_78.2.2.2.2.2.2.2), (12, .int x_100), (13, .int x_202), (14, .int m_243), (16, .int x_147), (17, .int m_193)]) hx hb dX12_edit_269 hl (by decide) rfl (fun ls hl => ?_)
                            refine lv_iload hx hb dX12_edit_271 (lv_at hl 15 rfl) ?_
                            have J_282 : ∀ (m_282 : Int32), m_282 = (if m_243 = 0 then (x_209) else ((-1))) → ∀ (H : Heap) (locs : List Loc), va_P D vwCl (wX12_edit cI cB a_mo a_mem a_mks a_mr a_cnt a_wd a_one a_two a_mmade a_mrest a_old v_thrown v_mask v_key v_wait v_problem v_code v_length v_cond v_masks v_addr v_mwanted m_231 v_after v_calls v_oneB v_twoB w_78.2.1 v_mkF v_mrF g_18.1) H → va_D A (wX12_edit cI cB a_mo a_mem a_mks a_mr a_cnt a_wd a_one a_two a_mmade a_mrest a_old v_thrown v_mask v_key v_wait v_problem v_code v_length v_cond v_masks v_addr v_mwanted m_231 v_after v_calls v_oneB v_twoB w_78.2.1 v_mkF v_mrF g_18.1) → va_S A s.heap H locs → ∀ (ls : Array Slot), lv_has ls 18 [(0, .ref a_mo), (1, .int x0), (2, .int x1), (3, .int x2), (4, .int x3), (5, .int x_52), (6, .int w_78.2.2.1), (7, .int x_209), (8, .int x_195), (9, .int w_78.2.2.2.2.2.1), (10, .int w_78.2.2.2.2.2.2.1), (11, .int w_78.2.2.2.2.2.2.2), (12, .int x_100), (13, .int x_202), (14, .int m_243), (15, .int m_269), (16, .int x_147), (17, .int m_193)] → W p l e rmX12_edit s m ([.ref a_mo, .int x0, .int x1, .int x2, .int x3] : List Value).toArray below meth c H locs 0 0 (MQ below (qX12_edit D cI cB a_mo a_mem a_mks a_mr a_cnt a_wd a_one a_two a_mmade a_mrest a_old v_thrown v_mask v_key v_wait v_problem v_code v_length v_cond v_masks v_addr v_mwanted v_wrong v_after v_calls v_oneB v_twoB v_mF v_mkF v_mrF v_oldF x0 x1 x2 x3 A) ([.ref a_mo, .int x0, .int x1, .int x2, .int x3] : List Value).toArray s 0 0 A) (F0 m 282 ls [.int m_282]) := by
                              intro m_282 em_282 H locs hP hD hS ls hl
                              try dsimp only at em_282
                              refine lv_istore (lv' := [(7, .int m_282), (0, .ref a_mo), (1, .int x0), (2, .int x1), (3, .int x2), (4, .int x3), (5, .int x_52), (6, .int w_78.2.2.1), (8, .int x_195), (9, .int w_78.2.2.2.2.2.1), (10, .int w_78.2.2.2.2.2.2.1), (11, .int w_78.2.2.2.2.2.2.2), (12, .int x_100), (13, .int x_202), (14, .int m_243), (15, .int m_269), (16, .int x_147), (17, .int m_193)]) hx hb dX12_edit_282 hl (by decide) rfl (fun ls hl => ?_)
                              refine lv_goto (tgt := 290) hx hb dX12_edit_284 (by decide) ?_
                              exact J_290 (m_231, m_282, m_269, m_243, x_202, x_195) (by subst ex_209; subst ex_202; subst ex_195; subst ex_147; (try simp only [← eu_139, ← em_193, ← em_231, ← em_243, ← em_269, ← em_282]); (try simp only [if_neg c_128])) _ _ hP hD hS ls (lv_sub hl [1, 2, 3, 4, 5, 6, 7, 0, 8, 9, 10, 11, 12, 13, 14, 15] rfl)
                            refine lv_if_eq (tgt := 280) hx hb dX12_edit_273 (by decide) (fun c_273 => ?_) (fun c_273 => ?_)
                            · skip
                              refine lv_iload hx hb dX12_edit_280 (lv_at hl 8 rfl) ?_
                              exact J_282 x_209 (by (try simp only [if_pos c_273])) _ _ hP hD hS ls (lv_sub hl [1, 2, 3, 4, 5, 6, 7, 8, 9, 10, 11, 12, 13, 14, 15, 0, 16, 17] rfl)
                            · skip
                              refine lv_iconst (v := (-1)) hx hb dX12_edit_276 (by decide) ?_
                              refine lv_goto (tgt := 282) hx hb dX12_edit_277 (by decide) ?_
                              exact J_282 (-1) (by (try simp only [if_neg c_273])) _ _ hP hD hS ls (lv_sub hl [1, 2, 3, 4, 5, 6, 7, 8, 9, 10, 11, 12, 13, 14, 15, 0, 16, 17] rfl)
                          refine lv_if_eq (tgt := 268) hx hb dX12_edit_247 (by decide) (fun c_247 => ?_) (fun c_247 => ?_)
                          · skip
                            refine lv_iconst (v := 0) hx hb dX12_edit_268 (by decide) ?_
                            exact J_269 0 (by (try simp only [if_pos c_247])) _ _ hP hD hS ls (lv_sub hl [1, 2, 3, 4, 5, 6, 7, 8, 9, 10, 11, 12, 13, 14, 0, 15, 16, 17] rfl)
                          · skip
                            refine lv_iload hx hb dX12_edit_250 (lv_at hl 8 rfl) ?_
                            refine lv_bipush (v := 11) hx hb dX12_edit_252 (by decide) ?_
                            refine lv_icmp_eq (tgt := 268) hx hb dX12_edit_254 (by decide) (fun c_254 => ?_) (fun c_254 => ?_)
                            · skip
                              refine lv_iconst (v := 0) hx hb dX12_edit_268 (by decide) ?_
                              exact J_269 0 (by (try simp only [if_neg c_247, if_pos c_254])) _ _ hP hD hS ls (lv_sub hl [1, 2, 3, 4, 5, 6, 7, 8, 9, 10, 11, 12, 13, 14, 0, 15, 16, 17] rfl)
                            · skip
                              refine lv_iload hx hb dX12_edit_257 (lv_at hl 8 rfl) ?_
                              refine lv_bipush (v := 13) hx hb dX12_edit_259 (by decide) ?_
                              refine lv_icmp_eq (tgt := 268) hx hb dX12_edit_261 (by decide) (fun c_261 => ?_) (fun c_261 => ?_)
                              · skip
                                refine lv_iconst (v := 0) hx hb dX12_edit_268 (by decide) ?_
                                exact J_269 0 (by (try simp only [if_neg c_247, if_neg c_254, if_pos c_261])) _ _ hP hD hS ls (lv_sub hl [1, 2, 3, 4, 5, 6, 7, 8, 9, 10, 11, 12, 13, 14, 0, 15, 16, 17] rfl)
                              · skip
                                refine lv_iconst (v := 1) hx hb dX12_edit_264 (by decide) ?_
                                refine lv_goto (tgt := 269) hx hb dX12_edit_265 (by decide) ?_
                                exact J_269 1 (by (try simp only [if_neg c_247, if_neg c_254, if_neg c_261])) _ _ hP hD hS ls (lv_sub hl [1, 2, 3, 4, 5, 6, 7, 8, 9, 10, 11, 12, 13, 14, 0, 15, 16, 17] rfl)
                        refine lv_icmp_le (tgt := 242) hx hb dX12_edit_235 (by decide) (fun c_235 => ?_) (fun c_235 => ?_)
                        · skip
                          refine lv_iconst (v := 0) hx hb dX12_edit_242 (by decide) ?_
                          exact J_243 0 (by (try simp only [if_pos c_235])) _ _ hP hD hS ls (lv_sub hl [0, 1, 2, 3, 4, 5, 6, 7, 8, 9, 10, 11, 12, 13, 14, 15, 16, 17] rfl)
                        · skip
                          refine lv_iconst (v := 1) hx hb dX12_edit_238 (by decide) ?_
                          refine lv_goto (tgt := 243) hx hb dX12_edit_239 (by decide) ?_
                          exact J_243 1 (by (try simp only [if_neg c_235])) _ _ hP hD hS ls (lv_sub hl [0, 1, 2, 3, 4, 5, 6, 7, 8, 9, 10, 11, 12, 13, 14, 15, 16, 17] rfl)
                      refine lv_if_ne (tgt := 231) hx hb dX12_edit_215 (by decide) (fun c_215 => ?_) (fun c_215 => ?_)
                      · skip
                        exact J_231 u_139 (by (try simp only [if_neg c_215])) _ _ hP hD hS ls (lv_sub hl [4, 5, 6, 7, 8, 9, 10, 0, 2, 11, 12, 13, 14, 1, 15, 16, 17, 3] rfl)
                      · skip
                        refine lv_iload hx hb dX12_edit_218 (lv_at hl 1 rfl) ?_
                        refine lv_bipush (v := 9) hx hb dX12_edit_220 (by decide) ?_
                        refine lv_icmp_le (tgt := 231) hx hb dX12_edit_222 (by decide) (fun c_222 => ?_) (fun c_222 => ?_)
                        · skip
                          exact J_231 u_139 (by (try simp only [if_pos c_215, if_pos c_222])) _ _ hP hD hS ls (lv_sub hl [4, 5, 6, 7, 8, 9, 10, 0, 2, 11, 12, 13, 14, 1, 15, 16, 17, 3] rfl)
                        · skip
                          refine lv_aload_n hx hb dX12_edit_225 rfl (lv_at hl 4 rfl) ?_
                          refine lv_bipush (v := 7) hx hb dX12_edit_226 (by decide) ?_
                          have hPc : va_P D vwCl (wX12_meet cI cB a_mo a_mem a_mks a_mr a_cnt a_wd a_one a_two a_mmade a_mrest a_old v_thrown v_mask v_key v_wait v_problem v_code v_length v_cond v_masks v_addr v_mwanted u_139 v_after v_calls v_oneB v_twoB) H := hP.sub [0] rfl
                          have hDc : va_D A (wX12_meet cI cB a_mo a_mem a_mks a_mr a_cnt a_wd a_one a_two a_mmade a_mrest a_old v_thrown v_mask v_key v_wait v_problem v_code v_length v_cond v_masks v_addr v_mwanted u_139 v_after v_calls v_oneB v_twoB) := hD.sub [0] (by decide) rfl
                          have hFc := va_free (wc := (wX12_meet cI cB a_mo a_mem a_mks a_mr a_cnt a_wd a_one a_two a_mmade a_mrest a_old v_thrown v_mask v_key v_wait v_problem v_code v_length v_cond v_masks v_addr v_mwanted u_139 v_after v_calls v_oneB v_twoB)) hD hS hA [0] rfl
                          refine va_callv (va_runV (As := [.int 7]) (rest := []) ⟨hx, hb, hml, hown, hts⟩ (kX12_meet l D cI cB a_mo a_mem a_mks a_mr a_cnt a_wd a_one a_two a_mmade a_mrest a_old H.size v_thrown v_mask v_key v_wait v_problem v_code v_length v_cond v_masks v_addr v_mwanted u_139 v_after v_calls v_oneB v_twoB 7) (cwV 1 hts (gd_V wd_838 wd_839 wd_840 wd_807 wd_835) rfl rfl rfl hdX12_meet ⟨Nat.le_of_ble_eq_true rfl, Nat.le_of_ble_eq_true rfl⟩) (preV_std (ci := 12) (q0 := 0) hPc hK hDc hNW rfl rfl) rfl rfl hl.1 rfl (lv_room (Nat.le_of_ble_eq_true rfl)) dX12_edit_228 ⟨Nat.zero_le _, Nat.zero_le _⟩) hS (fun q _ h => hFc q h) hFc (fun u_228 t9 H1 locs ht9 hvm9 hw9 hB9 hz9 hk9 hS => ?_)
                          have eu_228 : u_228 = fX12_meet 7 u_139 := hw9
                          obtain ⟨hP, hD⟩ := back_std (w1 := (wX12_meet cI cB a_mo a_mem a_mks a_mr a_cnt a_wd a_one a_two a_mmade a_mrest a_old v_thrown v_mask v_key v_wait v_problem v_code v_length v_cond v_masks v_addr v_mwanted u_228 v_after v_calls v_oneB v_twoB)) (w2 := (wX12_edit cI cB a_mo a_mem a_mks a_mr a_cnt a_wd a_one a_two a_mmade a_mrest a_old v_thrown v_mask v_key v_wait v_problem v_code v_length v_cond v_masks v_addr v_mwanted u_228 v_after v_calls v_oneB v_twoB w_78.2.1 v_mkF v_mrF g_18.1)) (wr := [(a_mem, .inl (cI, 8192, .inl w_78.2.1)), (a_mks, .inl (cI, 4, .inl v_mkF)), (a_mr, .inl (cI, 16, .inl v_mrF)), (a_old, .inl (cI, 512, .inl g_18.1))]) hP hD [0] [1, 2, 3, 4] [4, 0, 1, 2, 3] rfl rfl (by decide) (by decide) hk9 hFc hB9 ht9 (by decide) rfl
                          clear hB9 hk9 hz9 hvm9 ht9 hFc hPc hDc
                          generalize H1 = H at hP hS ⊢
                          exact J_231 u_228 (by (try simp only [← eu_228]); (try simp only [if_pos c_215, if_neg c_222])) _ _ hP hD hS ls (lv_sub hl [4, 5, 6, 7, 8, 9, 10, 0, 2, 11, 12, 13, 14, 1, 15, 16, 17, 3] rfl)
                    refine lv_if_le (tgt := 160) hx hb dX12_edit_153 (by decide) (fun c_153 => ?_) (fun c_153 => ?_)
                    · skip
                      refine lv_iload hx hb dX12_edit_160 (lv_at hl 0 rfl) ?_
                      refine lv_iload_n hx hb dX12_edit_162 rfl (lv_at hl 8 rfl) ?_
                      refine lv_icmp_lt (tgt := 186) hx hb dX12_edit_163 (by decide) (fun c_163 => ?_) (fun c_163 => ?_)
                      · skip
                        refine lv_aload_n hx hb dX12_edit_186 rfl (lv_at hl 5 rfl) ?_
                        refine va_get (D := D) (ci := 12) (v := .ref a_mem) (C := RX12) (T := TX12) (N := 26) hx hb hts in_X12 hown hK hP 0 rfl rfl 1 (by decide) q_2 (fun _ h9 => h9) rfl dX12_edit_187 ?_
                        refine lv_iload hx hb dX12_edit_190 (lv_at hl 0 rfl) ?_
                        refine va_iald hx hb hK hP 1 0 rfl rfl (by rw [ex_147]; exact lk_in (in24_and _) (by rw [c_88]; decide) eu_139 c_153) dX12_edit_192 ?_
                        exact J_193 (w_78.2.1 (x_147 : Int32).toNatClampNeg) (by (try simp only [if_pos c_153, if_pos c_163])) _ _ hP hD hS ls (lv_sub hl [5, 6, 7, 8, 9, 10, 11, 12, 13, 14, 15, 16, 4, 3, 2, 1, 0] rfl)
                      · skip
                        refine lv_iload hx hb dX12_edit_166 (lv_at hl 0 rfl) ?_
                        refine lv_iload_n hx hb dX12_edit_168 rfl (lv_at hl 8 rfl) ?_
                        refine lv_iload_n hx hb dX12_edit_169 rfl (lv_at hl 7 rfl) ?_
                        refine lv_iadd hx hb dX12_edit_170 ?_
                        refine lv_icmp_ge (tgt := 186) hx hb dX12_edit_171 (by decide) (fun c_171 => ?_) (fun c_171 => ?_)
                        · skip
                          refine lv_aload_n hx hb dX12_edit_186 rfl (lv_at hl 5 rfl) ?_
                          refine va_get (D := D) (ci := 12) (v := .ref a_mem) (C := RX12) (T := TX12) (N := 26) hx hb hts in_X12 hown hK hP 0 rfl rfl 1 (by decide) q_2 (fun _ h9 => h9) rfl dX12_edit_187 ?_
                          refine lv_iload hx hb dX12_edit_190 (lv_at hl 0 rfl) ?_
                          refine va_iald hx hb hK hP 1 0 rfl rfl (by rw [ex_147]; exact lk_in (in24_and _) (by rw [c_88]; decide) eu_139 c_153) dX12_edit_192 ?_
                          exact J_193 (w_78.2.1 (x_147 : Int32).toNatClampNeg) (by (try simp only [if_pos c_153, if_neg c_163, if_pos c_171])) _ _ hP hD hS ls (lv_sub hl [5, 6, 7, 8, 9, 10, 11, 12, 13, 14, 15, 16, 4, 3, 2, 1, 0] rfl)
                        · skip
                          refine lv_aload_n hx hb dX12_edit_174 rfl (lv_at hl 5 rfl) ?_
                          refine va_get (D := D) (ci := 12) (v := .ref a_old) (C := RX12) (T := TX12) (N := 26) hx hb hts in_X12 hown hK hP 0 rfl rfl 25 (by decide) q_1 (fun _ h9 => h9) rfl dX12_edit_175 ?_
                          refine lv_iload hx hb dX12_edit_178 (lv_at hl 0 rfl) ?_
                          refine lv_iload_n hx hb dX12_edit_180 rfl (lv_at hl 8 rfl) ?_
                          refine lv_isub hx hb dX12_edit_181 ?_
                          refine va_iald hx hb hK hP 4 0 rfl rfl (ed_old hIn hn c_163 c_171) dX12_edit_182 ?_
                          refine lv_goto (tgt := 193) hx hb dX12_edit_183 (by decide) ?_
                          exact J_193 (g_18.1 ((x_147 - x2) : Int32).toNatClampNeg) (by (try simp only [if_pos c_153, if_neg c_163, if_neg c_171])) _ _ hP hD hS ls (lv_sub hl [5, 6, 7, 8, 9, 10, 11, 12, 13, 14, 15, 16, 4, 3, 2, 1, 0] rfl)
                    · skip
                      refine lv_iconst (v := 0) hx hb dX12_edit_156 (by decide) ?_
                      refine lv_goto (tgt := 193) hx hb dX12_edit_157 (by decide) ?_
                      exact J_193 0 (by (try simp only [if_neg c_153])) _ _ hP hD hS ls (lv_sub hl [5, 6, 7, 8, 9, 10, 11, 12, 13, 14, 15, 16, 4, 3, 2, 1, 0] rfl)
      exact lp_78 (msU x1 0 + 1) (u_4, v_mF, 0, (-1), x3, x_70, 0, 0) (Nat.lt_succ_self _) (by show (0 : Int32) ≤ 0; decide) eg_78.symm _ _ hP hD hS ls (lv_sub hl [7, 8, 9, 10, 11, 6, 5, 4, 3, 2, 1, 0] rfl)
    have lp_18 : ∀ (n9 : Nat) (w_18 : ((Nat → Int32) × Int32)), msU x1 w_18.2 < n9 → 0 ≤ w_18.2 → LX12_edit_18 x1 x2 v_mF n9 w_18 = g_18 → ∀ (H : Heap) (locs : List Loc), va_P D vwCl (wX12_edit cI cB a_mo a_mem a_mks a_mr a_cnt a_wd a_one a_two a_mmade a_mrest a_old v_thrown v_mask v_key v_wait v_problem v_code v_length v_cond v_masks v_addr v_mwanted u_4 v_after v_calls v_oneB v_twoB v_mF v_mkF v_mrF w_18.1) H → va_D A (wX12_edit cI cB a_mo a_mem a_mks a_mr a_cnt a_wd a_one a_two a_mmade a_mrest a_old v_thrown v_mask v_key v_wait v_problem v_code v_length v_cond v_masks v_addr v_mwanted u_4 v_after v_calls v_oneB v_twoB v_mF v_mkF v_mrF w_18.1) → va_S A s.heap H locs → ∀ (ls : Array Slot), lv_has ls 18 [(0, .ref a_mo), (1, .int x0), (2, .int x1), (3, .int x2), (4, .int x3), (5, .int w_18.2)] → W p l e rmX12_edit s m ([.ref a_mo, .int x0, .int x1, .int x2, .int x3] : List Value).toArray below meth c H locs 0 0 (MQ below (qX12_edit D cI cB a_mo a_mem a_mks a_mr a_cnt a_wd a_one a_two a_mmade a_mrest a_old v_thrown v_mask v_key v_wait v_problem v_code v_length v_cond v_masks v_addr v_mwanted v_wrong v_after v_calls v_oneB v_twoB v_mF v_mkF v_mrF v_oldF x0 x1 x2 x3 A) ([.ref a_mo, .int x0, .int x1, .int x2, .int x3] : List Value).toArray s 0 0 A) (F0 m 18 ls []) := by
      intro n9
      induction n9 with
      | zero => intro w_18 hm9; exact absurd hm9 (Nat.not_lt_zero _)
      | succ n9 ih =>
        intro w_18 hm9 hI9 hL9 H locs hP hD hS ls hl
        have hI_18 := hI9
        refine lv_iload hx hb dX12_edit_18 (lv_at hl 5 rfl) ?_
        refine lv_iload_n hx hb dX12_edit_20 rfl (lv_at hl 2 rfl) ?_
        refine lv_icmp_ge (tgt := 46) hx hb dX12_edit_21 (by decide) (fun c_21 => ?_) (fun c_21 => ?_)
        · skip
          have hg9 : (w_18.1, w_18.2) = g_18 := by rw [← hL9]; simp only [LX12_edit_18]; (try simp only [if_pos c_21])
          subst hg9
          exact K_18_0 _ _ hP hD hS ls (lv_sub hl [0, 1, 2, 3, 4, 5] rfl)
        · skip
          refine lv_aload_n hx hb dX12_edit_24 rfl (lv_at hl 0 rfl) ?_
          refine va_get (D := D) (ci := 12) (v := .ref a_old) (C := RX12) (T := TX12) (N := 26) hx hb hts in_X12 hown hK hP 0 rfl rfl 25 (by decide) q_1 (fun _ h9 => h9) rfl dX12_edit_25 ?_
          refine lv_iload hx hb dX12_edit_28 (lv_at hl 5 rfl) ?_
          refine lv_aload_n hx hb dX12_edit_30 rfl (lv_at hl 0 rfl) ?_
          refine va_get (D := D) (ci := 12) (v := .ref a_mem) (C := RX12) (T := TX12) (N := 26) hx hb hts in_X12 hown hK hP 0 rfl rfl 1 (by decide) q_2 (fun _ h9 => h9) rfl dX12_edit_31 ?_
          refine lv_iload_n hx hb dX12_edit_34 rfl (lv_at hl 3 rfl) ?_
          refine lv_iload hx hb dX12_edit_35 (lv_at hl 5 rfl) ?_
          refine lv_iadd hx hb dX12_edit_37 ?_
          refine va_iald hx hb hK hP 1 0 rfl rfl (inM_at hIn hI9 c_21) dX12_edit_38 ?_
          refine va_iast hx hb hK hP hD hS 4 0 rfl rfl (vin_n (Int.le_trans hn.2 (by decide)) hI9 c_21) dX12_edit_39 (fun H locs hP hD hS => ?_)
          obtain ⟨f_39, ef_39⟩ : ∃ z : Nat → Int32, z = upd w_18.1 (w_18.2 : Int32).toNatClampNeg ((v_mF ((x2 + w_18.2) : Int32).toNatClampNeg)) := ⟨_, rfl⟩
          have hP : va_P D vwCl (wX12_edit cI cB a_mo a_mem a_mks a_mr a_cnt a_wd a_one a_two a_mmade a_mrest a_old v_thrown v_mask v_key v_wait v_problem v_code v_length v_cond v_masks v_addr v_mwanted u_4 v_after v_calls v_oneB v_twoB v_mF v_mkF v_mrF (upd w_18.1 (w_18.2 : Int32).toNatClampNeg ((v_mF ((x2 + w_18.2) : Int32).toNatClampNeg)))) H := hP
          have hD : va_D A (wX12_edit cI cB a_mo a_mem a_mks a_mr a_cnt a_wd a_one a_two a_mmade a_mrest a_old v_thrown v_mask v_key v_wait v_problem v_code v_length v_cond v_masks v_addr v_mwanted u_4 v_after v_calls v_oneB v_twoB v_mF v_mkF v_mrF (upd w_18.1 (w_18.2 : Int32).toNatClampNeg ((v_mF ((x2 + w_18.2) : Int32).toNatClampNeg)))) := hD
          rw [← ef_39] at hP hD
          obtain ⟨x_40, ex_40⟩ : ∃ z : Int32, z = w_18.2 + 1 := ⟨_, rfl⟩
          refine lv_iinc (v := x_40) (lv' := [(5, .int x_40), (0, .ref a_mo), (1, .int x0), (2, .int x1), (3, .int x2), (4, .int x3)]) hx hb dX12_edit_40 hl (k := 5) rfl (by rw [ex_40]; rfl) (by decide) rfl (fun ls hl => ?_)
          refine lv_goto (tgt := 18) hx hb dX12_edit_43 (by decide) ?_
          exact ih (f_39, x_40) (by subst ex_40; subst ef_39;  exact Nat.lt_of_lt_of_le (ms_up c_21) (Nat.le_of_lt_succ hm9)) (by subst ex_40; subst ef_39;  exact nn_up hI9 c_21) (by rw [← hL9]; subst ex_40; subst ef_39; simp only [LX12_edit_18]; (try simp only [if_neg c_21])) _ _ hP hD hS ls (lv_sub hl [1, 2, 3, 4, 5, 0] rfl)
    exact lp_18 (msU x1 0 + 1) (v_oldF, 0) (Nat.lt_succ_self _) (by show (0 : Int32) ≤ 0; decide) eg_18.symm _ _ hP hD hS ls (lv_sub hl [1, 2, 3, 4, 5, 0] rfl)
  · skip
    have hf9 : (v_cond, u_4, v_mF, v_mrF, v_oldF) = fX12_edit x0 x1 x2 x3 v_key v_cond v_wrong v_mF v_mkF v_mrF v_oldF := by simp only [fX12_edit, ← eu_4]; (try simp only [if_neg c_11])
    exact W.vret hx hb hr (fun t9 ht9 hW9 => ⟨⟨(v_cond, u_4, v_mF, v_mrF, v_oldF), rfl, hf9, ⟨by rw [ht9]; exact hP, va_K.moved hW9.alike hK, hD⟩⟩, hS.F ht9⟩) hS.2.2 dX12_edit_14
theorem hdX12_edit : yX12_edit.cls = RX12 ∧ yX12_edit.cls ≠ "java/lang/invoke/MethodHandle" ∧ yX12_edit.cls ≠ "java/lang/invoke/VarHandle" ∧ (parseMethodDescriptor yX12_edit.desc).map (fun d => d.parameters.length) = some 4 := by decide +kernel
