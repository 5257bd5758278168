noncomputable def LX1_setNumber_20 : Nat → ((Nat → Int32) × Int64 × Int32) → ((Nat → Int32) × Int64 × Int32)
  | 0, w_20 => w_20
  | n9 + 1, w_20 =>
    if 32 ≤ w_20.2.2 then ((w_20.1, w_20.2.1, w_20.2.2)) else (let f_42 := upd w_20.1 (w_20.2.2 : Int32).toNatClampNeg (((if 0 < (w_20.2.1 - w_20.2.1 / 10 * 10) then (w_20.2.1 - w_20.2.1 / 10 * 10) else -(w_20.2.1 - w_20.2.1 / 10 * 10)) : Int64).toInt32); let x_48 := (w_20.2.1 / 10); let x_49 := w_20.2.2 + 1; LX1_setNumber_20 n9 (f_42, x_48, x_49))
noncomputable def fX1_setNumber (x0 : Int64) (v_below : Int32) (v_dF : (Nat → Int32)) : (Int32 × (Nat → Int32)) :=
  let m_12 : Int32 := (if 0 ≤ (lg_cmp (x0) (0)) then (0) else (1))
  let g_20 := LX1_setNumber_20  (msU 32 0 + 1) (v_dF, x0, 0)
  (m_12, g_20.1)
abbrev wX1_setNumber (cI cB : ClassId) (a_d a_dg : Nat) (v_below : Int32) (v_dF : (Nat → Int32)) : va_W := [(a_d, .inr (1, [.ref a_dg, .int v_below])), (a_dg, .inl (cI, 32, .inl v_dF))]
abbrev rmX1_setNumber : Room := { frames := 1, cells := 0, slots := 0, locals := 21 }
abbrev qX1_setNumber (D : va_G) (cI cB : ClassId) (a_d a_dg : Nat) (v_below : Int32) (v_dF : (Nat → Int32)) (x0 : Int64) : (Nat → Prop) → Array Value → State → Outcome → State → Prop := fun A9 => va_Qv (fun (u9 : (Int32 × (Nat → Int32))) => u9 = fX1_setNumber x0 v_below v_dF) (fun u9 t9 => atW D (TYS cI cB) A9 (wX1_setNumber cI cB a_d a_dg u9.1 u9.2) t9) A9
set_option maxHeartbeats 4000000 in
set_option maxRecDepth 100000 in
theorem kX1_setNumber (l : Launch) (D : va_G) (cI cB : ClassId) (a_d a_dg : Nat) (sz : Nat) (v_below : Int32) (v_dF : (Nat → Int32)) (x0 : Int64) : MetW l yX1_setNumber (WK yX1_setNumber cX1_setNumber 6 none) rmX1_setNumber D (TYS cI cB) (wX1_setNumber cI cB a_d a_dg v_below v_dF) sz [.ref a_d, .long x0] (qX1_setNumber D cI cB a_d a_dg v_below v_dF x0) 0 0 := by
  refine met_std (by decide) rfl (Nat.le_of_ble_eq_true rfl) ?_
  intro p e s m below meth c A ls H hx hb hr hml hown hts hlocks hA hP hK hD hS hNW hl
  have hl : lv_has ls 6 [(0, .ref a_d), (1, .long x0)] := hl
  have q_0 := hts _ (List.mem_cons_of_mem _ wd_134)
  have q_1 := hts _ (List.mem_cons_of_mem _ wd_129)
  have q_2 := hts _ (List.mem_cons_of_mem _ wd_163)
  have q_3 := hts _ (List.mem_cons_of_mem _ wd_164)
  have q_4 := hts _ (List.mem_cons_of_mem _ wd_165)
  have q_5 := hts _ (List.mem_cons_of_mem _ wd_156)
  have q_6 := hts _ (List.mem_cons_of_mem _ wd_166)
  refine lv_aload_n hx hb dX1_setNumber_0 rfl (lv_at hl 0 rfl) ?_
  refine lv_lload_n hx hb dX1_setNumber_1 rfl (lv_at hl 1 rfl) ?_
  refine lv_lconst (v := 0) hx hb dX1_setNumber_2 (by decide) ?_
  refine W.lcmp hx hb dX1_setNumber_3 ?_
  have J_12 : ∀ (m_12 : Int32), m_12 = (if 0 ≤ (lg_cmp (x0) (0)) then (0) else (1)) → ∀ (H : Heap) (locs : List Loc), va_P D vwCl (wX1_setNumber cI cB a_d a_dg v_below v_dF) H → va_D A (wX1_setNumber cI cB a_d a_dg v_below v_dF) → va_S A s.heap H locs → ∀ (ls : Array Slot), lv_has ls 6 [(0, .ref a_d), (1, .long x0)] → W p l e rmX1_setNumber s m ([.ref a_d, .long x0] : List Value).toArray below meth c H locs 0 0 (MQ below (qX1_setNumber D cI cB a_d a_dg v_below v_dF x0 A) ([.ref a_d, .long x0] : List Value).toArray s 0 0 A) (F0 m 12 ls [.int m_12, .ref a_d]) := by
    intro m_12 em_12 H locs hP hD hS ls hl
    have zm_12_0 : m_12 = 0 ∨ m_12 = 1 := by rw [em_12]; (try dsimp only); (repeat' split) <;> first | exact Or.inl rfl | exact Or.inr rfl
    refine va_put (D := D) (ci := 1) (v := .int m_12) (ty := .boolean) (C := RX1) (T := TX1) (N := 2) hx hb hts in_X1 tyX1 tyX1_ok nmX1 hown hK hP hD hS 0 rfl rfl 1 (by decide) q_0 (fun _ h9 => h9) rfl (by decide +kernel) (zb_narrow (by with_reducible assumption)) (zb_fits (by with_reducible assumption)) (Nat.le_of_ble_eq_true rfl) dX1_setNumber_12 (fun H locs hP hD hS => ?_)
    have hP : va_P D vwCl (wX1_setNumber cI cB a_d a_dg m_12 v_dF) H := hP
    have hD : va_D A (wX1_setNumber cI cB a_d a_dg m_12 v_dF) := hD
    refine lv_lload_n hx hb dX1_setNumber_15 rfl (lv_at hl 1 rfl) ?_
    refine lv_lstore_n (lv' := [(3, .long x0), (0, .ref a_d), (1, .long x0)]) hx hb dX1_setNumber_16 rfl hl (by decide) rfl (fun ls hl => ?_)
    refine lv_iconst (v := 0) hx hb dX1_setNumber_17 (by decide) ?_
    refine lv_istore (lv' := [(5, .int 0), (3, .long x0), (0, .ref a_d), (1, .long x0)]) hx hb dX1_setNumber_18 hl (by decide) rfl (fun ls hl => ?_)
    obtain ⟨g_20, eg_20⟩ : ∃ z : ((Nat → Int32) × Int64 × Int32), z = LX1_setNumber_20  (msU 32 0 + 1) (v_dF, x0, 0) := ⟨_, rfl⟩
    have K_20_0 : ∀ (H : Heap) (locs : List Loc), va_P D vwCl (wX1_setNumber cI cB a_d a_dg m_12 g_20.1) H → va_D A (wX1_setNumber cI cB a_d a_dg m_12 g_20.1) → va_S A s.heap H locs → ∀ (ls : Array Slot), lv_has ls 6 [(0, .ref a_d), (1, .long x0), (3, .long g_20.2.1), (5, .int g_20.2.2)] → W p l e rmX1_setNumber s m ([.ref a_d, .long x0] : List Value).toArray below meth c H locs 0 0 (MQ below (qX1_setNumber D cI cB a_d a_dg v_below v_dF x0 A) ([.ref a_d, .long x0] : List Value).toArray s 0 0 A) (F0 m 55 ls []) := by
      intro H locs hP hD hS ls hl
      have hf9 : (m_12, g_20.1) = fX1_setNumber x0 v_below v_dF := by subst em_12; simp only [fX1_setNumber, ← eg_20]
      exact W.vret hx hb hr (fun t9 ht9 hW9 => ⟨⟨(m_12, g_20.1), rfl, hf9, ⟨by rw [ht9]; exact hP, va_K.moved hW9.alike hK, hD⟩⟩, hS.F ht9⟩) hS.2.2 dX1_setNumber_55
    have lp_20 : ∀ (n9 : Nat) (w_20 : ((Nat → Int32) × Int64 × Int32)), msU 32 w_20.2.2 < n9 → 0 ≤ w_20.2.2 → LX1_setNumber_20  n9 w_20 = g_20 → ∀ (H : Heap) (locs : List Loc), va_P D vwCl (wX1_setNumber cI cB a_d a_dg m_12 w_20.1) H → va_D A (wX1_setNumber cI cB a_d a_dg m_12 w_20.1) → va_S A s.heap H locs → ∀ (ls : Array Slot), lv_has ls 6 [(0, .ref a_d), (1, .long x0), (3, .long w_20.2.1), (5, .int w_20.2.2)] → W p l e rmX1_setNumber s m ([.ref a_d, .long x0] : List Value).toArray below meth c H locs 0 0 (MQ below (qX1_setNumber D cI cB a_d a_dg v_below v_dF x0 A) ([.ref a_d, .long x0] : List Value).toArray s 0 0 A) (F0 m 20 ls []) := by
      intro n9
      induction n9 with
      | zero => intro w_20 hm9; exact absurd hm9 (Nat.not_lt_zero _)
      | succ n9 ih =>
        intro w_20 hm9 hI9 hL9 H locs hP hD hS ls hl
        have hI_20 := hI9
        refine lv_iload hx hb dX1_setNumber_20 (lv_at hl 3 rfl) ?_
        refine lv_bipush (v := 32) hx hb dX1_setNumber_22 (by decide) ?_
        refine lv_icmp_ge (tgt := 55) hx hb dX1_setNumber_24 (by decide) (fun c_24 => ?_) (fun c_24 => ?_)
        · skip
          have hg9 : (w_20.1, w_20.2.1, w_20.2.2) = g_20 := by rw [← hL9]; simp only [LX1_setNumber_20, if_pos c_24]
          subst hg9
          exact K_20_0 _ _ hP hD hS ls (lv_sub hl [0, 1, 2, 3] rfl)
        · skip
          refine lv_aload_n hx hb dX1_setNumber_27 rfl (lv_at hl 0 rfl) ?_
          refine va_get (D := D) (ci := 1) (v := .ref a_dg) (C := RX1) (T := TX1) (N := 2) hx hb hts in_X1 hown hK hP 0 rfl rfl 0 (by decide) q_1 (fun _ h9 => h9) rfl dX1_setNumber_28 ?_
          refine lv_iload hx hb dX1_setNumber_31 (lv_at hl 3 rfl) ?_
          refine lv_lload_n hx hb dX1_setNumber_33 rfl (lv_at hl 2 rfl) ?_
          refine lv_ldc2 (v := 10) hx hb hown q_2 dX1_setNumber_34 ?_
          refine lv_lrem hx hb dX1_setNumber_37 (by decide) ?_
          refine va_mabs_long hx hb (hml.trans hl.1.symm) hown q_3 q_4 q_5 q_6 (Nat.le_of_ble_eq_true rfl) (Nat.le_of_ble_eq_true rfl) (Nat.zero_le _) (Nat.zero_le _) dX1_setNumber_38 ?_
          refine lv_l2i hx hb dX1_setNumber_41 rfl ?_
          refine va_iast hx hb hK hP hD hS 1 0 rfl rfl (by first | with_reducible assumption | exact vin_of (b := 32) (by decide) (by with_reducible assumption) (by with_reducible assumption) | exact vin_of (b := 32) (by decide) (Int32.not_lt.mp (by with_reducible assumption)) (by with_reducible assumption) | exact vin_dn (by decide) (by with_reducible assumption) hI9) dX1_setNumber_42 (fun H locs hP hD hS => ?_)
          obtain ⟨f_42, ef_42⟩ : ∃ z : Nat → Int32, z = upd w_20.1 (w_20.2.2 : Int32).toNatClampNeg (((if 0 < (w_20.2.1 - w_20.2.1 / 10 * 10) then (w_20.2.1 - w_20.2.1 / 10 * 10) else -(w_20.2.1 - w_20.2.1 / 10 * 10)) : Int64).toInt32) := ⟨_, rfl⟩
          have hP : va_P D vwCl (wX1_setNumber cI cB a_d a_dg m_12 (upd w_20.1 (w_20.2.2 : Int32).toNatClampNeg (((if 0 < (w_20.2.1 - w_20.2.1 / 10 * 10) then (w_20.2.1 - w_20.2.1 / 10 * 10) else -(w_20.2.1 - w_20.2.1 / 10 * 10)) : Int64).toInt32))) H := hP
          have hD : va_D A (wX1_setNumber cI cB a_d a_dg m_12 (upd w_20.1 (w_20.2.2 : Int32).toNatClampNeg (((if 0 < (w_20.2.1 - w_20.2.1 / 10 * 10) then (w_20.2.1 - w_20.2.1 / 10 * 10) else -(w_20.2.1 - w_20.2.1 / 10 * 10)) : Int64).toInt32))) := hD
          rw [← ef_42] at hP hD
          refine lv_lload_n hx hb dX1_setNumber_43 rfl (lv_at hl 2 rfl) ?_
          refine lv_ldc2 (v := 10) hx hb hown q_2 dX1_setNumber_44 ?_
          refine lv_ldiv hx hb dX1_setNumber_47 (by decide) ?_
          refine lv_topl (fun x_48 ex_48 => ?_)
          refine lv_lstore_n (lv' := [(3, .long x_48), (0, .ref a_d), (1, .long x0), (5, .int w_20.2.2)]) hx hb dX1_setNumber_48 rfl hl (by decide) rfl (fun ls hl => ?_)
          obtain ⟨x_49, ex_49⟩ : ∃ z : Int32, z = w_20.2.2 + 1 := ⟨_, rfl⟩
          refine lv_iinc (v := x_49) (lv' := [(5, .int x_49), (3, .long x_48), (0, .ref a_d), (1, .long x0)]) hx hb dX1_setNumber_49 hl (k := 3) rfl (by rw [ex_49]; rfl) (by decide) rfl (fun ls hl => ?_)
          refine lv_goto (tgt := 20) hx hb dX1_setNumber_52 (by decide) ?_
          exact ih (f_42, x_48, x_49) (by subst ex_49; subst ex_48; subst ef_42;  exact Nat.lt_of_lt_of_le (ms_up c_24) (Nat.le_of_lt_succ hm9)) (by subst ex_49; subst ex_48; subst ef_42;  exact nn_up hI9 c_24) (by rw [← hL9]; subst ex_49; subst ex_48; subst ef_42; simp only [LX1_setNumber_20, if_neg c_24]) _ _ hP hD hS ls (lv_sub hl [2, 3, 1, 0] rfl)
    exact lp_20 (msU 32 0 + 1) (v_dF, x0, 0) (Nat.lt_succ_self _) (by show (0 : Int32) ≤ 0; decide) eg_20.symm _ _ hP hD hS ls (lv_sub hl [2, 3, 1, 0] rfl)
  refine lv_if_ge (tgt := 11) hx hb dX1_setNumber_4 (by decide) (fun c_4 => ?_) (fun c_4 => ?_)
  · skip
    refine lv_iconst (v := 0) hx hb dX1_setNumber_11 (by decide) ?_
    exact J_12 0 (by simp only [if_pos c_4]) _ _ hP hD hS ls (lv_sub hl [0, 1] rfl)
  · skip
    refine lv_iconst (v := 1) hx hb dX1_setNumber_7 (by decide) ?_
    refine lv_goto (tgt := 12) hx hb dX1_setNumber_8 (by decide) ?_
    exact J_12 1 (by simp only [if_neg c_4]) _ _ hP hD hS ls (lv_sub hl [0, 1] rfl)
theorem hdX1_setNumber : yX1_setNumber.cls = RX1 ∧ yX1_setNumber.cls ≠ "java/lang/invoke/MethodHandle" ∧ yX1_setNumber.cls ≠ "java/lang/invoke/VarHandle" ∧ (parseMethodDescriptor yX1_setNumber.desc).map (fun d => d.parameters.length) = some 1 := by decide +kernel
