/-! the law in general: a call thrown on one side is thrown on the other; places of the script; what stays -/
theorem gd_W {c0 : Cond} {own : String} {idx : Nat} {y : MethodName} {bs : ByteArray} {n : Nat} {r : Option FieldType} {hh : List (Nat × Nat × Nat × Nat)} (h1 : Cond.methodLink own idx y ∈ WSA) (h2 : Cond.static y ∈ WSA) (h4 : Cond.initialized y.cls ∈ WSA) (h5 : Cond.codeWith y bs n r hh ∈ WSA) : GoodIn (c0 :: WSA) (va_wsS own idx y (Cond.codeWith y bs n r hh :: WSA)) := by
  intro w hw
  have h9 : w ∈ WSA := by
    simp only [va_wsS, List.cons_append, List.nil_append, List.mem_cons] at hw
    rcases hw with rfl | rfl | rfl | rfl | hw <;> assumption
  exact ⟨List.mem_cons_of_mem _ h9, WSA_good w h9⟩
theorem thr_of {t r m : Int32} {P R : Prop} (hw : (t = 0 ∧ r = 0 ∧ P) ∨ (t = 1 ∧ r = 1 ∧ R)) (h : m = t) : m = r := by
  rcases hw with ⟨h1, h2, -⟩ | ⟨h1, h2, -⟩ <;> rw [h, h1, h2]
theorem thrown_e (x : Int32) : fX12_thrown x = x := rfl
theorem put_t (x y a : Int32) (f g : Nat → Int32) : (fX12_put x y a f).1 = tX11_put x y g := by
  have e : ∀ (m : Int32) (h : Nat → Int32), (if m = 0 then (m, h) else (m, f)).1 = m := fun m h => by split <;> rfl
  simp only [fX12_put, tX11_put]
  exact e _ _
theorem c1_a {x y a r rr : Int32} {u : Int32 × (Nat → Int32)} {f g : Nat → Int32} {P R : Prop} (hw : (tX11_put x y g = 0 ∧ r = 0 ∧ P) ∨ (tX11_put x y g = 1 ∧ r = 1 ∧ R)) (eu : u = fX12_put x y a f) (er : rr = fX12_thrown u.1) : rr = r :=
  thr_of hw (by rw [er, thrown_e, eu, put_t])
theorem bytes_e (x n : Int32) : fX11_areBytes x n = if fX12_noBytes x n = 0 then 1 else 0 := by
  obtain ⟨r, hr⟩ : ∃ r : Int32, r = fX12_noBytes x n := ⟨_, rfl⟩
  rw [← hr]
  simp only [fX12_noBytes] at hr
  simp only [fX11_areBytes]
  by_cases h1 : n < 1
  · rw [if_pos h1] at hr ⊢; rw [hr, if_neg (by decide)]
  rw [if_neg h1] at hr ⊢
  by_cases h2 : 8 < n
  · rw [if_pos h2] at hr ⊢; rw [hr, if_neg (by decide)]
  rw [if_neg h2] at hr ⊢
  by_cases h3 : x < 0
  · rw [if_pos h3] at hr ⊢; rw [hr, if_neg (by decide)]
  rw [if_neg h3] at hr ⊢
  by_cases h4 : x ≤ 8192 - n
  · rw [if_pos h4] at hr; rw [if_neg (Int32.not_lt.mpr h4), hr, if_pos rfl]
  · rw [if_neg h4] at hr; rw [if_pos (Int32.not_le.mp h4), hr, if_neg (by decide)]
theorem write_t (x n a : Int32) (v : Int64) (f g : Nat → Int32) : (fX12_write x v n a f).1 = tX11_write x v n g := by
  have e : ∀ (m : Int32) (h : Nat → Int32), (if m = 0 then (m, h) else (m, f)).1 = m := fun m h => by split <;> rfl
  simp only [fX12_write, tX11_write]
  refine (e _ _).trans ?_
  rw [bytes_e]
  by_cases h : fX12_noBytes x n = 0
  · rw [if_pos h, if_pos h, if_neg (by decide)]
  · rw [if_neg h, if_neg h, if_pos rfl]
theorem c4_a {x n a r rr : Int32} {v : Int64} {u : Int32 × (Nat → Int32)} {f g : Nat → Int32} {P R : Prop} (hw : (tX11_write x v n g = 0 ∧ r = 0 ∧ P) ∨ (tX11_write x v n g = 1 ∧ r = 1 ∧ R)) (eu : u = fX12_write x v n a f) (er : rr = fX12_thrown u.1) : rr = r :=
  thr_of hw (by rw [er, thrown_e, eu, write_t])
theorem want_t (x a b g : Int32) : (fX12_want x a b).1 = tX11_want x g := by
  have e : ∀ m h k : Int32, (if m = 0 then (m, h) else (m, k)).1 = m := fun m h k => by split <;> rfl
  simp only [fX12_want, tX11_want]
  exact e _ _ _
theorem c7_a {x a b g r rr : Int32} {u : Int32 × Int32} {P R : Prop} (hw : (tX11_want x g = 0 ∧ r = 0 ∧ P) ∨ (tX11_want x g = 1 ∧ r = 1 ∧ R)) (eu : u = fX12_want x a b) (er : rr = fX12_thrown u.1) : rr = r :=
  thr_of hw (by rw [er, thrown_e, eu, want_t])
theorem vs0 {i : Int32} {L : Nat} (h0 : 0 ≤ i.toInt) (h : i.toInt + 4 < (L : Int)) : vp_in i L := by
  rw [vp_in_iff]
  omega
theorem vsk {i k : Int32} {L : Nat} (h0 : 0 ≤ i.toInt) (h : i.toInt + 4 < (L : Int)) (hL : L ≤ 2560) (hk : 0 ≤ k.toInt ∧ k.toInt ≤ 4) : vp_in (i + k) L := by
  rw [vp_in_iff, add_toInt (by omega) (by omega)]
  omega
theorem a_load {x0 : Int64} {v_thrown : Int32} {v_mask : Int32} {v_key : Int32} {v_wait : Int32} {v_problem : Int32} {v_code : Int32} {v_length : Int32} {v_cond : Int32} {v_masks : Int32} {v_addr : Int32} : in24 (fX12_load x0 v_thrown v_mask v_key v_wait v_problem v_code v_length v_cond v_masks v_addr).2.2.2.2.2.2.2.2.2 := by
  simp only [fX12_load]
  exact a_become
theorem st_L {x0 m_17 : Int32} : ∀ (n9 : Nat) (w : (Int32 × Int32 × Int32 × Int32 × Int32 × Int32 × Int32 × Int32 × Int32 × Int32 × Int32 × Int32 × Int32 × Int32 × (Nat → Int32) × (Nat → Int32) × (Nat → Int32) × (Nat → Int32) × (Nat → Int32) × (Nat → Int32) × (Nat → Int32) × (Nat → Int32) × (Nat → Int32) × (Nat → Int32) × Int32 × Int32)), in24 w.2.2.2.2.2.2.2.2.1 ∧ mOk w.2.2.2.2.2.2.2.2.2.2.2.2.2.2.1 → in24 (LX12_step_22 x0 m_17 n9 w).1.2.2.2.2.2.2.2.2.1 ∧ mOk (LX12_step_22 x0 m_17 n9 w).1.2.2.2.2.2.2.2.2.2.2.2.2.2.2.1 := by
  intro n9
  induction n9 with
  | zero => intro w h; exact h
  | succ n9 ih =>
    intro w h
    simp only [LX12_step_22]
    by_cases c1 : m_17 = 0
    · rw [if_pos c1]
      by_cases c2 : x0 ≤ w.2.2.2.2.2.2.2.2.2.2.2.2.2.2.2.2.2.2.2.2.2.2.2.2.1
      · rw [if_pos c2]; exact h
      rw [if_neg c2]
      by_cases c3 : fX12_comes w.1 w.2.2.2.2.2.2.2.2.2.2.2.2.2.2.2.2.2.2.2.2.2.2.2.2.2 = 0
      · rw [if_pos c3]
        by_cases c4 : w.2.2.1 = 0
        · rw [if_pos c4]; exact ih _ (st_B h rfl)
        · rw [if_neg c4]; exact h
      · rw [if_neg c3]; exact ih _ (st_A h rfl)
    · rw [if_neg c1]; exact h
theorem st_all {x0 : Int32} {v_thrown : Int32} {v_mask : Int32} {v_key : Int32} {v_wait : Int32} {v_problem : Int32} {v_code : Int32} {v_length : Int32} {v_cond : Int32} {v_masks : Int32} {v_addr : Int32} {v_mwanted : Int32} {v_wrong : Int32} {v_after : Int32} {v_calls : Int32} {v_oneB : Int32} {v_twoB : Int32} {v_mF : (Nat → Int32)} {v_mkF : (Nat → Int32)} {v_mrF : (Nat → Int32)} {v_cntF : (Nat → Int32)} {v_wdF : (Nat → Int32)} {v_oneF : (Nat → Int32)} {v_twoF : (Nat → Int32)} {v_mmF : (Nat → Int32)} {v_resF : (Nat → Int32)} {v_oldF : (Nat → Int32)} {u : (Int32 × Int32 × Int32 × Int32 × Int32 × Int32 × Int32 × Int32 × Int32 × Int32 × Int32 × Int32 × Int32 × Int32 × Int32 × Int32 × (Nat → Int32) × (Nat → Int32) × (Nat → Int32) × (Nat → Int32) × (Nat → Int32) × (Nat → Int32) × (Nat → Int32) × (Nat → Int32) × (Nat → Int32) × (Nat → Int32))} (ha : in24 v_addr) (hM : mOk v_mF) (e : u = (fX12_step x0 v_thrown v_mask v_key v_wait v_problem v_code v_length v_cond v_masks v_addr v_mwanted v_wrong v_after v_calls v_oneB v_twoB v_mF v_mkF v_mrF v_cntF v_wdF v_oneF v_twoF v_mmF v_resF v_oldF).2) : in24 u.2.2.2.2.2.2.2.2.2.1 ∧ mOk u.2.2.2.2.2.2.2.2.2.2.2.2.2.2.2.2.1 := by
  rw [e]
  have hg : ∀ n9 m z, in24 (LX12_step_22 x0 m n9 (v_mask, v_key, v_wait, v_problem, v_code, v_length, v_cond, v_masks, v_addr, v_wrong, v_after, v_calls, v_oneB, v_twoB, v_mF, v_mkF, v_mrF, v_cntF, v_wdF, v_oneF, v_twoF, v_mmF, v_resF, v_oldF, 0, z)).1.2.2.2.2.2.2.2.2.1 ∧ mOk (LX12_step_22 x0 m n9 (v_mask, v_key, v_wait, v_problem, v_code, v_length, v_cond, v_masks, v_addr, v_wrong, v_after, v_calls, v_oneB, v_twoB, v_mF, v_mkF, v_mrF, v_cntF, v_wdF, v_oneF, v_twoF, v_mmF, v_resF, v_oldF, 0, z)).1.2.2.2.2.2.2.2.2.2.2.2.2.2.2.1 := fun n9 m z => st_L n9 _ ⟨ha, hM⟩
  simp only [fX12_step]
  by_cases c : (LX12_step_22 x0 (if x0 < 0 then (1) else (if x0 ≤ 3000 then (0) else (1))) (msU x0 0 + 1) (v_mask, v_key, v_wait, v_problem, v_code, v_length, v_cond, v_masks, v_addr, v_wrong, v_after, v_calls, v_oneB, v_twoB, v_mF, v_mkF, v_mrF, v_cntF, v_wdF, v_oneF, v_twoF, v_mmF, v_resF, v_oldF, 0, v_mwanted)).2 = 0
  · rw [if_pos c]; exact hg _ _ _
  · rw [if_neg c]; exact hg _ _ _
theorem cs_L {x0 : Int32} : ∀ (n9 : Nat) (w : (Int32 × Int32 × Int32 × Int32 × Int32 × Int32 × Int32 × Int32 × Int32 × Int32 × Int32 × Int32 × Int32 × Int32 × Int32 × Int32 × Int32 × Int64 × (Nat → Int32) × (Nat → Int32) × (Nat → Int32) × Int32 × (Nat → Int32) × Int32 × (Nat → Int32) × (Nat → Int32) × (Nat → Int32) × (Nat → Int32) × Int32)), zI w.2.2.2.2.2.2.2.2.2.2.2.2.2.2.2.2.2.2.2.2.2.1 ∧ zI w.2.2.2.2.2.2.2.2.2.2.2.2.2.2.2.2.2.2.2.2.2.2.2.1 → zI (LX11_step_21 x0 n9 w).2.2.2.2.2.2.2.2.2.2.2.2.2.2.2.2.2.2.2.2.2.1 ∧ zI (LX11_step_21 x0 n9 w).2.2.2.2.2.2.2.2.2.2.2.2.2.2.2.2.2.2.2.2.2.2.2.1 := by
  intro n9
  induction n9 with
  | zero => intro w h; exact h
  | succ n9 ih =>
    intro w h
    simp only [LX11_step_21]
    by_cases c1 : x0 ≤ w.2.2.2.2.2.2.2.2.2.2.2.2.2.2.2.2.2.2.2.2.2.2.2.2.2.2.2.2
    · rw [if_pos c1]; exact h
    rw [if_neg c1]
    by_cases c2 : fX11_waits w.1 w.2.2.2.2.2.2.2.2.2.2.2.2.2.2.2.2.2.1 = 0
    · rw [if_pos c2]; exact ih _ (go_z h rfl)
    · rw [if_neg c2]; exact h
theorem cs_f {x0 : Int32} {v_wanted : Int32} {v_fb : Int32} {v_sb : Int32} {v_fill : Int32} {v_on : Int32} {v_fnz : Int32} {v_next : Int32} {v_sec : Int32} {v_sab : Int32} {v_mark : Int32} {v_op : Int32} {v_i : Int32} {v_r : Int32} {v_s : Int32} {v_a : Int32} {v_b : Int32} {v_fault : Int32} {v_word : Int64} {v_bF : (Nat → Int32)} {v_kF : (Nat → Int32)} {v_rF : (Nat → Int32)} {v_below1 : Int32} {v_dF1 : (Nat → Int32)} {v_below2 : Int32} {v_dF2 : (Nat → Int32)} {v_srcF : (Nat → Int32)} {v_madeF : (Nat → Int32)} {v_itF : (Nat → Int32)} (hz1 : zI v_below1) (hz2 : zI v_below2) : zI (fX11_step x0 v_wanted v_fb v_sb v_fill v_on v_fnz v_next v_sec v_sab v_mark v_op v_i v_r v_s v_a v_b v_fault v_word v_bF v_kF v_rF v_below1 v_dF1 v_below2 v_dF2 v_srcF v_madeF v_itF).2.2.2.2.2.2.2.2.2.2.2.2.2.2.2.2.2.2.2.2.2.2.1 ∧ zI (fX11_step x0 v_wanted v_fb v_sb v_fill v_on v_fnz v_next v_sec v_sab v_mark v_op v_i v_r v_s v_a v_b v_fault v_word v_bF v_kF v_rF v_below1 v_dF1 v_below2 v_dF2 v_srcF v_madeF v_itF).2.2.2.2.2.2.2.2.2.2.2.2.2.2.2.2.2.2.2.2.2.2.2.2.1 := by
  have hg : ∀ n9 z, zI (LX11_step_21 x0 n9 (v_wanted, v_fb, v_sb, v_fill, v_on, v_fnz, v_next, v_sec, v_sab, v_mark, v_op, v_i, v_r, v_s, v_a, v_b, v_fault, v_word, v_bF, v_kF, v_rF, v_below1, v_dF1, v_below2, v_dF2, v_srcF, v_madeF, v_itF, z)).2.2.2.2.2.2.2.2.2.2.2.2.2.2.2.2.2.2.2.2.2.1 ∧ zI (LX11_step_21 x0 n9 (v_wanted, v_fb, v_sb, v_fill, v_on, v_fnz, v_next, v_sec, v_sab, v_mark, v_op, v_i, v_r, v_s, v_a, v_b, v_fault, v_word, v_bF, v_kF, v_rF, v_below1, v_dF1, v_below2, v_dF2, v_srcF, v_madeF, v_itF, z)).2.2.2.2.2.2.2.2.2.2.2.2.2.2.2.2.2.2.2.2.2.2.2.1 := fun n9 z => cs_L n9 _ ⟨hz1, hz2⟩
  simp only [fX11_step, apply_ite Prod.snd, apply_ite Prod.fst]
  exact ⟨zI_ite hz1 (zI_ite (hg _ _).1 hz1), zI_ite hz2 (zI_ite (hg _ _).2 hz2)⟩
theorem cs_all {x0 : Int32} {v_wanted : Int32} {v_fb : Int32} {v_sb : Int32} {v_fill : Int32} {v_on : Int32} {v_fnz : Int32} {v_next : Int32} {v_sec : Int32} {v_sab : Int32} {v_mark : Int32} {v_op : Int32} {v_i : Int32} {v_r : Int32} {v_s : Int32} {v_a : Int32} {v_b : Int32} {v_fault : Int32} {v_word : Int64} {v_bF : (Nat → Int32)} {v_kF : (Nat → Int32)} {v_rF : (Nat → Int32)} {v_below1 : Int32} {v_dF1 : (Nat → Int32)} {v_below2 : Int32} {v_dF2 : (Nat → Int32)} {v_srcF : (Nat → Int32)} {v_madeF : (Nat → Int32)} {v_itF : (Nat → Int32)} {r : Int32} {u : (Int32 × Int32 × Int32 × Int32 × Int32 × Int32 × Int32 × Int32 × Int32 × Int32 × Int32 × Int32 × Int32 × Int32 × Int32 × Int32 × Int32 × Int64 × (Nat → Int32) × (Nat → Int32) × (Nat → Int32) × Int32 × (Nat → Int32) × Int32 × (Nat → Int32) × (Nat → Int32) × (Nat → Int32) × (Nat → Int32))} {P R : Prop} (hz1 : v_below1 = 0 ∨ v_below1 = 1) (hz2 : v_below2 = 0 ∨ v_below2 = 1) (hw : ((tX11_step x0 v_wanted v_fb v_sb v_fill v_on v_fnz v_next v_sec v_sab v_mark v_op v_i v_r v_s v_a v_b v_fault v_word v_bF v_kF v_rF v_below1 v_dF1 v_below2 v_dF2 v_srcF v_madeF v_itF) = 0 ∧ r = 0 ∧ u = (fX11_step x0 v_wanted v_fb v_sb v_fill v_on v_fnz v_next v_sec v_sab v_mark v_op v_i v_r v_s v_a v_b v_fault v_word v_bF v_kF v_rF v_below1 v_dF1 v_below2 v_dF2 v_srcF v_madeF v_itF).2 ∧ P) ∨ ((tX11_step x0 v_wanted v_fb v_sb v_fill v_on v_fnz v_next v_sec v_sab v_mark v_op v_i v_r v_s v_a v_b v_fault v_word v_bF v_kF v_rF v_below1 v_dF1 v_below2 v_dF2 v_srcF v_madeF v_itF) = 1 ∧ r = 1 ∧ u = (v_wanted, v_fb, v_sb, v_fill, v_on, v_fnz, v_next, v_sec, v_sab, v_mark, v_op, v_i, v_r, v_s, v_a, v_b, v_fault, v_word, v_bF, v_kF, v_rF, v_below1, v_dF1, v_below2, v_dF2, v_srcF, v_madeF, v_itF) ∧ R)) : (u.2.2.2.2.2.2.2.2.2.2.2.2.2.2.2.2.2.2.2.2.2.1 = 0 ∨ u.2.2.2.2.2.2.2.2.2.2.2.2.2.2.2.2.2.2.2.2.2.1 = 1) ∧ (u.2.2.2.2.2.2.2.2.2.2.2.2.2.2.2.2.2.2.2.2.2.2.2.1 = 0 ∨ u.2.2.2.2.2.2.2.2.2.2.2.2.2.2.2.2.2.2.2.2.2.2.2.1 = 1) := by
  rcases hw with ⟨-, -, e, -⟩ | ⟨-, -, e, -⟩
  · rw [e]; exact cs_f hz1 hz2
  · rw [e]; exact ⟨hz1, hz2⟩
