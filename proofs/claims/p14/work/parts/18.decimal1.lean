noncomputable def LX1_isLongerThan_8 (v_dF : (Nat → Int32)) : Nat → (Int32 × Int32) → (Int32 × Int32)
  | 0, w_8 => w_8
  | n9 + 1, w_8 =>
    if 32 ≤ w_8.2 then ((w_8.1, w_8.2)) else (let m_32 : Int32 := (if w_8.1 = 0 then (if (v_dF (w_8.2 : Int32).toNatClampNeg) = 0 then (0) else (1)) else (1)); let x_33 := w_8.2 + 1; LX1_isLongerThan_8 v_dF n9 (m_32, x_33))
theorem zLX1_isLongerThan_8 (v_dF : (Nat → Int32)) : ∀ (n9 : Nat) (w9 : (Int32 × Int32)), (w9.1 = 0 ∨ w9.1 = 1) → ((LX1_isLongerThan_8 v_dF n9 w9).1 = 0 ∨ (LX1_isLongerThan_8 v_dF n9 w9).1 = 1)
  | 0, w9, h9 => h9
  | n9 + 1, w9, h9 => by
    simp only [LX1_isLongerThan_8]
    (repeat' split) <;> first | exact h9 | exact zLX1_isLongerThan_8 v_dF n9 _ (Or.inl rfl) | exact zLX1_isLongerThan_8 v_dF n9 _ (Or.inr rfl) | exact zLX1_isLongerThan_8 v_dF n9 _ h9
noncomputable def fX1_isLongerThan (x0 : Int32) (v_dF : (Nat → Int32)) : Int32 :=
  let x_7 := (if x0 < 0 then 0 else x0)
  let g_8 := LX1_isLongerThan_8 v_dF (msU 32 x_7 + 1) (0, x_7)
  g_8.1
theorem zX1_isLongerThan (x0 : Int32) (v_dF : (Nat → Int32)) : (fX1_isLongerThan x0 v_dF) = 0 ∨ (fX1_isLongerThan x0 v_dF) = 1 := by unfold fX1_isLongerThan; exact zLX1_isLongerThan_8 _ _ _ (Or.inl rfl)
abbrev wX1_isLongerThan (cI cB : ClassId) (a_d a_dg : Nat) (v_below : Int32) (v_dF : (Nat → Int32)) : va_W := [(a_d, .inr (1, [.ref a_dg, .int v_below])), (a_dg, .inl (cI, 32, .inl v_dF))]
abbrev rmX1_isLongerThan : Room := { frames := 1, cells := 0, slots := 0, locals := 21 }
abbrev qX1_isLongerThan (D : va_G) (cI cB : ClassId) (a_d a_dg : Nat) (v_below : Int32) (v_dF : (Nat → Int32)) (x0 : Int32) : (Nat → Prop) → Array Value → State → Outcome → State → Prop := fun A9 => va_Qi (fun (r9 : Int32) (u9 : Unit) => r9 = fX1_isLongerThan x0 v_dF) (fun u9 t9 => atW D (TYS cI cB) A9 (wX1_isLongerThan cI cB a_d a_dg v_below v_dF) t9) A9
set_option maxHeartbeats 4000000 in
set_option maxRecDepth 100000 in
theorem kX1_isLongerThan (l : Launch) (D : va_G) (cI cB : ClassId) (a_d a_dg : Nat) (sz : Nat) (v_below : Int32) (v_dF : (Nat → Int32)) (x0 : Int32) : MetW l yX1_isLongerThan (WK yX1_isLongerThan cX1_isLongerThan 4 (some .boolean)) rmX1_isLongerThan D (TYS cI cB) (wX1_isLongerThan cI cB a_d a_dg v_below v_dF) sz [.ref a_d, .int x0] (qX1_isLongerThan D cI cB a_d a_dg v_below v_dF x0) 0 0 := by
  refine met_std (by decide) rfl (Nat.le_of_ble_eq_true rfl) ?_
  intro p e s m below meth c A ls H hx hb hr hml hown hts hlocks hA hP hK hD hS hNW hl
  have hl : lv_has ls 4 [(0, .ref a_d), (1, .int x0)] := hl
  have q_0 := hts _ (List.mem_cons_of_mem _ wd_154)
  have q_1 := hts _ (List.mem_cons_of_mem _ wd_155)
  have q_2 := hts _ (List.mem_cons_of_mem _ wd_156)
  have q_3 := hts _ (List.mem_cons_of_mem _ wd_157)
  have q_4 := hts _ (List.mem_cons_of_mem _ wd_129)
  refine lv_iconst (v := 0) hx hb dX1_isLongerThan_0 (by decide) ?_
  refine lv_istore_n (lv' := [(2, .int 0), (0, .ref a_d), (1, .int x0)]) hx hb dX1_isLongerThan_1 rfl hl (by decide) rfl (fun ls hl => ?_)
  refine lv_iload_n hx hb dX1_isLongerThan_2 rfl (lv_at hl 2 rfl) ?_
  refine lv_iconst (v := 0) hx hb dX1_isLongerThan_3 (by decide) ?_
  refine va_mmax hx hb (hml.trans hl.1.symm) hown q_0 q_1 q_2 q_3 (Nat.le_of_ble_eq_true rfl) (Nat.le_of_ble_eq_true rfl) (Nat.zero_le _) (Nat.zero_le _) dX1_isLongerThan_4 ?_
  refine lv_topi (fun x_7 ex_7 => ?_)
  refine lv_istore_n (lv' := [(3, .int x_7), (2, .int 0), (0, .ref a_d), (1, .int x0)]) hx hb dX1_isLongerThan_7 rfl hl (by decide) rfl (fun ls hl => ?_)
  obtain ⟨g_8, eg_8⟩ : ∃ z : (Int32 × Int32), z = LX1_isLongerThan_8 v_dF (msU 32 x_7 + 1) (0, x_7) := ⟨_, rfl⟩
  have zg_8 : g_8.1 = 0 ∨ g_8.1 = 1 := by rw [eg_8]; exact zLX1_isLongerThan_8 v_dF _ _ (by first | exact Or.inl rfl | exact Or.inr rfl | assumption)
  have K_8_0 : ∀ (H : Heap) (locs : List Loc), va_P D vwCl (wX1_isLongerThan cI cB a_d a_dg v_below v_dF) H → va_D A (wX1_isLongerThan cI cB a_d a_dg v_below v_dF) → va_S A s.heap H locs → ∀ (ls : Array Slot), lv_has ls 4 [(0, .ref a_d), (1, .int x0), (2, .int g_8.1), (3, .int g_8.2)] → W p l e rmX1_isLongerThan s m ([.ref a_d, .int x0] : List Value).toArray below meth c H locs 0 0 (MQ below (qX1_isLongerThan D cI cB a_d a_dg v_below v_dF x0 A) ([.ref a_d, .int x0] : List Value).toArray s 0 0 A) (F0 m 39 ls []) := by
    intro H locs hP hD hS ls hl
    refine lv_iload_n hx hb dX1_isLongerThan_39 rfl (lv_at hl 2 rfl) ?_
    have hf9 : g_8.1 = fX1_isLongerThan x0 v_dF := by subst ex_7; simp only [fX1_isLongerThan, ← eg_8]
    exact W.zret hx hb hr (zb_narrow (by with_reducible assumption)) (fun t9 ht9 hW9 => ⟨⟨g_8.1, (), rfl, hf9, ⟨by rw [ht9]; exact hP, va_K.moved hW9.alike hK, hD⟩⟩, hS.F ht9⟩) hS.2.2 dX1_isLongerThan_40
  have lp_8 : ∀ (n9 : Nat) (w_8 : (Int32 × Int32)), msU 32 w_8.2 < n9 → 0 ≤ w_8.2 → LX1_isLongerThan_8 v_dF n9 w_8 = g_8 → ∀ (H : Heap) (locs : List Loc), va_P D vwCl (wX1_isLongerThan cI cB a_d a_dg v_below v_dF) H → va_D A (wX1_isLongerThan cI cB a_d a_dg v_below v_dF) → va_S A s.heap H locs → ∀ (ls : Array Slot), lv_has ls 4 [(0, .ref a_d), (1, .int x0), (2, .int w_8.1), (3, .int w_8.2)] → W p l e rmX1_isLongerThan s m ([.ref a_d, .int x0] : List Value).toArray below meth c H locs 0 0 (MQ below (qX1_isLongerThan D cI cB a_d a_dg v_below v_dF x0 A) ([.ref a_d, .int x0] : List Value).toArray s 0 0 A) (F0 m 8 ls []) := by
    intro n9
    induction n9 with
    | zero => intro w_8 hm9; exact absurd hm9 (Nat.not_lt_zero _)
    | succ n9 ih =>
      intro w_8 hm9 hI9 hL9 H locs hP hD hS ls hl
      have hI_8 := hI9
      refine lv_iload_n hx hb dX1_isLongerThan_8 rfl (lv_at hl 3 rfl) ?_
      refine lv_bipush (v := 32) hx hb dX1_isLongerThan_9 (by decide) ?_
      refine lv_icmp_ge (tgt := 39) hx hb dX1_isLongerThan_11 (by decide) (fun c_11 => ?_) (fun c_11 => ?_)
      · skip
        have hg9 : (w_8.1, w_8.2) = g_8 := by rw [← hL9]; simp only [LX1_isLongerThan_8, if_pos c_11]
        subst hg9
        exact K_8_0 _ _ hP hD hS ls (lv_sub hl [0, 1, 2, 3] rfl)
      · skip
        refine lv_iload_n hx hb dX1_isLongerThan_14 rfl (lv_at hl 2 rfl) ?_
        have J_32 : ∀ (m_32 : Int32), m_32 = (if w_8.1 = 0 then (if (v_dF (w_8.2 : Int32).toNatClampNeg) = 0 then (0) else (1)) else (1)) → ∀ (H : Heap) (locs : List Loc), va_P D vwCl (wX1_isLongerThan cI cB a_d a_dg v_below v_dF) H → va_D A (wX1_isLongerThan cI cB a_d a_dg v_below v_dF) → va_S A s.heap H locs → ∀ (ls : Array Slot), lv_has ls 4 [(0, .ref a_d), (1, .int x0), (2, .int w_8.1), (3, .int w_8.2)] → W p l e rmX1_isLongerThan s m ([.ref a_d, .int x0] : List Value).toArray below meth c H locs 0 0 (MQ below (qX1_isLongerThan D cI cB a_d a_dg v_below v_dF x0 A) ([.ref a_d, .int x0] : List Value).toArray s 0 0 A) (F0 m 32 ls [.int m_32]) := by
          intro m_32 em_32 H locs hP hD hS ls hl
          have zm_32_0 : m_32 = 0 ∨ m_32 = 1 := by rw [em_32]; (try dsimp only); (repeat' split) <;> first | exact Or.inl rfl | exact Or.inr rfl
          refine lv_istore_n (lv' := [(2, .int m_32), (0, .ref a_d), (1, .int x0), (3, .int w_8.2)]) hx hb dX1_isLongerThan_32 rfl hl (by decide) rfl (fun ls hl => ?_)
          obtain ⟨x_33, ex_33⟩ : ∃ z : Int32, z = w_8.2 + 1 := ⟨_, rfl⟩
          refine lv_iinc (v := x_33) (lv' := [(3, .int x_33), (2, .int m_32), (0, .ref a_d), (1, .int x0)]) hx hb dX1_isLongerThan_33 hl (k := 3) rfl (by rw [ex_33]; rfl) (by decide) rfl (fun ls hl => ?_)
          refine lv_goto (tgt := 8) hx hb dX1_isLongerThan_36 (by decide) ?_
          exact ih (m_32, x_33) (by subst ex_33; subst em_32;  exact Nat.lt_of_lt_of_le (ms_up c_11) (Nat.le_of_lt_succ hm9)) (by subst ex_33; subst em_32;  exact nn_up hI9 c_11) (by rw [← hL9]; subst ex_33; subst em_32; simp only [LX1_isLongerThan_8, if_neg c_11]) _ _ hP hD hS ls (lv_sub hl [2, 3, 1, 0] rfl)
        refine lv_if_ne (tgt := 27) hx hb dX1_isLongerThan_15 (by decide) (fun c_15 => ?_) (fun c_15 => ?_)
        · skip
          refine lv_iconst (v := 1) hx hb dX1_isLongerThan_27 (by decide) ?_
          refine lv_goto (tgt := 32) hx hb dX1_isLongerThan_28 (by decide) ?_
          exact J_32 1 (by simp only [if_neg c_15]) _ _ hP hD hS ls (lv_sub hl [0, 1, 2, 3] rfl)
        · skip
          refine lv_aload_n hx hb dX1_isLongerThan_18 rfl (lv_at hl 0 rfl) ?_
          refine va_get (D := D) (ci := 1) (v := .ref a_dg) (C := RX1) (T := TX1) (N := 2) hx hb hts in_X1 hown hK hP 0 rfl rfl 0 (by decide) q_4 (fun _ h9 => h9) rfl dX1_isLongerThan_19 ?_
          refine lv_iload_n hx hb dX1_isLongerThan_22 rfl (lv_at hl 3 rfl) ?_
          refine va_iald hx hb hK hP 1 0 rfl rfl (by first | with_reducible assumption | exact vin_of (b := 32) (by decide) (by with_reducible assumption) (by with_reducible assumption) | exact vin_of (b := 32) (by decide) (Int32.not_lt.mp (by with_reducible assumption)) (by with_reducible assumption) | exact vin_dn (by decide) (by with_reducible assumption) hI9) dX1_isLongerThan_23 ?_
          refine lv_if_eq (tgt := 31) hx hb dX1_isLongerThan_24 (by decide) (fun c_24 => ?_) (fun c_24 => ?_)
          · skip
            refine lv_iconst (v := 0) hx hb dX1_isLongerThan_31 (by decide) ?_
            exact J_32 0 (by simp only [if_pos c_15, if_pos c_24]) _ _ hP hD hS ls (lv_sub hl [0, 1, 2, 3] rfl)
          · skip
            refine lv_iconst (v := 1) hx hb dX1_isLongerThan_27 (by decide) ?_
            refine lv_goto (tgt := 32) hx hb dX1_isLongerThan_28 (by decide) ?_
            exact J_32 1 (by simp only [if_pos c_15, if_neg c_24]) _ _ hP hD hS ls (lv_sub hl [0, 1, 2, 3] rfl)
  exact lp_8 (msU 32 x_7 + 1) (0, x_7) (Nat.lt_succ_self _) (by subst ex_7; exact max0) eg_8.symm _ _ hP hD hS ls (lv_sub hl [2, 3, 1, 0] rfl)
theorem hdX1_isLongerThan : yX1_isLongerThan.cls = RX1 ∧ yX1_isLongerThan.cls ≠ "java/lang/invoke/MethodHandle" ∧ yX1_isLongerThan.cls ≠ "java/lang/invoke/VarHandle" ∧ (parseMethodDescriptor yX1_isLongerThan.desc).map (fun d => d.parameters.length) = some 1 := by decide +kernel
