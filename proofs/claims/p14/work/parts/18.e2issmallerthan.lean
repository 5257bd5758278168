theorem zb_ite {c : Prop} [Decidable c] {a b : Int32} (ha : a = 0 ∨ a = 1) (hb : b = 0 ∨ b = 1) : (if c then a else b) = 0 ∨ (if c then a else b) = 1 := by split <;> assumption
noncomputable def LX1_isSmallerThan_4 (v_dF : (Nat → Int32)) (v_dF2 : (Nat → Int32)) : Nat → (Int32 × Int32) → (Int32 × Int32)
  | 0, w_4 => w_4
  | n9 + 1, w_4 =>
    if 32 ≤ w_4.2 then ((w_4.1, w_4.2)) else (let m_42 : Int32 := (if (v_dF (w_4.2 : Int32).toNatClampNeg) = (v_dF2 (w_4.2 : Int32).toNatClampNeg) then (w_4.1) else (((v_dF (w_4.2 : Int32).toNatClampNeg) - (v_dF2 (w_4.2 : Int32).toNatClampNeg)))); let x_43 := w_4.2 + 1; LX1_isSmallerThan_4 v_dF v_dF2 n9 (m_42, x_43))
noncomputable def fX1_isSmallerThan (v_dF : (Nat → Int32)) (v_dF2 : (Nat → Int32)) : Int32 :=
  let g_4 := LX1_isSmallerThan_4 v_dF v_dF2 (msU 32 0 + 1) (0, 0)
  if 0 ≤ g_4.1 then (0) else (1)
theorem zX1_isSmallerThan (v_dF : (Nat → Int32)) (v_dF2 : (Nat → Int32)) : (fX1_isSmallerThan v_dF v_dF2) = 0 ∨ (fX1_isSmallerThan v_dF v_dF2) = 1 := by exact (fun (g : Int32 × Int32) => (zb_ite (Or.inl rfl) (Or.inr rfl) : (if 0 ≤ g.1 then (0 : Int32) else 1) = 0 ∨ (if 0 ≤ g.1 then (0 : Int32) else 1) = 1)) (LX1_isSmallerThan_4 v_dF v_dF2 (msU 32 0 + 1) (0, 0))
abbrev wX1_isSmallerThan (cI cB : ClassId) (a_d a_dg a_d2 a_dg2 : Nat) (v_below : Int32) (v_dF : (Nat → Int32)) (v_below2 : Int32) (v_dF2 : (Nat → Int32)) : va_W := [(a_d, .inr (1, [.ref a_dg, .int v_below])), (a_dg, .inl (cI, 32, .inl v_dF)), (a_d2, .inr (1, [.ref a_dg2, .int v_below2])), (a_dg2, .inl (cI, 32, .inl v_dF2))]
abbrev rmX1_isSmallerThan : Room := { frames := 0, cells := 0, slots := 0, locals := 0 }
abbrev qX1_isSmallerThan (D : va_G) (cI cB : ClassId) (a_d a_dg a_d2 a_dg2 : Nat) (v_below : Int32) (v_dF : (Nat → Int32)) (v_below2 : Int32) (v_dF2 : (Nat → Int32)) : (Nat → Prop) → Array Value → State → Outcome → State → Prop := fun A9 => va_Qi (fun (r9 : Int32) (u9 : Unit) => r9 = fX1_isSmallerThan v_dF v_dF2) (fun u9 t9 => atW D (TYS cI cB) A9 (wX1_isSmallerThan cI cB a_d a_dg a_d2 a_dg2 v_below v_dF v_below2 v_dF2) t9) A9
set_option maxHeartbeats 4000000 in
set_option maxRecDepth 100000 in
theorem kX1_isSmallerThan (l : Launch) (D : va_G) (cI cB : ClassId) (a_d a_dg a_d2 a_dg2 : Nat) (sz : Nat) (v_below : Int32) (v_dF : (Nat → Int32)) (v_below2 : Int32) (v_dF2 : (Nat → Int32)) : MetW l yX1_isSmallerThan (WK yX1_isSmallerThan cX1_isSmallerThan 4 (some .boolean)) rmX1_isSmallerThan D (TYS cI cB) (wX1_isSmallerThan cI cB a_d a_dg a_d2 a_dg2 v_below v_dF v_below2 v_dF2) sz [.ref a_d, .ref a_d2] (qX1_isSmallerThan D cI cB a_d a_dg a_d2 a_dg2 v_below v_dF v_below2 v_dF2) 0 0 := by
  refine met_std (by decide) rfl (Nat.le_of_ble_eq_true rfl) ?_
  intro p e s m below meth c A ls H hx hb hr hml hown hts hlocks hA hP hK hD hS hNW hl
  have hl : lv_has ls 4 [(0, .ref a_d), (1, .ref a_d2)] := hl
  have q_0 := hts _ (List.mem_cons_of_mem _ wd_129)
  refine lv_iconst (v := 0) hx hb dX1_isSmallerThan_0 (by decide) ?_
  refine lv_istore_n (lv' := [(2, .int 0), (0, .ref a_d), (1, .ref a_d2)]) hx hb dX1_isSmallerThan_1 rfl hl (by decide) rfl (fun ls hl => ?_)
  refine lv_iconst (v := 0) hx hb dX1_isSmallerThan_2 (by decide) ?_
  refine lv_istore_n (lv' := [(3, .int 0), (2, .int 0), (0, .ref a_d), (1, .ref a_d2)]) hx hb dX1_isSmallerThan_3 rfl hl (by decide) rfl (fun ls hl => ?_)
  obtain ⟨g_4, eg_4⟩ : ∃ z : (Int32 × Int32), z = LX1_isSmallerThan_4 v_dF v_dF2 (msU 32 0 + 1) (0, 0) := ⟨_, rfl⟩
  have K_4_0 : ∀ (H : Heap) (locs : List Loc), va_P D vwCl (wX1_isSmallerThan cI cB a_d a_dg a_d2 a_dg2 v_below v_dF v_below2 v_dF2) H → va_D A (wX1_isSmallerThan cI cB a_d a_dg a_d2 a_dg2 v_below v_dF v_below2 v_dF2) → va_S A s.heap H locs → ∀ (ls : Array Slot), lv_has ls 4 [(0, .ref a_d), (1, .ref a_d2), (2, .int g_4.1), (3, .int g_4.2)] → W p l e rmX1_isSmallerThan s m ([.ref a_d, .ref a_d2] : List Value).toArray below meth c H locs 0 0 (MQ below (qX1_isSmallerThan D cI cB a_d a_dg a_d2 a_dg2 v_below v_dF v_below2 v_dF2 A) ([.ref a_d, .ref a_d2] : List Value).toArray s 0 0 A) (F0 m 49 ls []) := by
    intro H locs hP hD hS ls hl
    refine lv_iload_n hx hb dX1_isSmallerThan_49 rfl (lv_at hl 2 rfl) ?_
    refine lv_if_ge (tgt := 57) hx hb dX1_isSmallerThan_50 (by decide) (fun c_50 => ?_) (fun c_50 => ?_)
    · skip
      refine lv_iconst (v := 0) hx hb dX1_isSmallerThan_57 (by decide) ?_
      have hf9 : 0 = fX1_isSmallerThan v_dF v_dF2 := by simp only [fX1_isSmallerThan, ← eg_4, if_pos c_50]
      exact W.zret hx hb hr (by decide) (fun t9 ht9 hW9 => ⟨⟨0, (), rfl, hf9, ⟨by rw [ht9]; exact hP, va_K.moved hW9.alike hK, hD⟩⟩, hS.F ht9⟩) hS.2.2 dX1_isSmallerThan_58
    · skip
      refine lv_iconst (v := 1) hx hb dX1_isSmallerThan_53 (by decide) ?_
      refine lv_goto (tgt := 58) hx hb dX1_isSmallerThan_54 (by decide) ?_
      have hf9 : 1 = fX1_isSmallerThan v_dF v_dF2 := by simp only [fX1_isSmallerThan, ← eg_4, if_neg c_50]
      exact W.zret hx hb hr (by decide) (fun t9 ht9 hW9 => ⟨⟨1, (), rfl, hf9, ⟨by rw [ht9]; exact hP, va_K.moved hW9.alike hK, hD⟩⟩, hS.F ht9⟩) hS.2.2 dX1_isSmallerThan_58
  have lp_4 : ∀ (n9 : Nat) (w_4 : (Int32 × Int32)), msU 32 w_4.2 < n9 → 0 ≤ w_4.2 → LX1_isSmallerThan_4 v_dF v_dF2 n9 w_4 = g_4 → ∀ (H : Heap) (locs : List Loc), va_P D vwCl (wX1_isSmallerThan cI cB a_d a_dg a_d2 a_dg2 v_below v_dF v_below2 v_dF2) H → va_D A (wX1_isSmallerThan cI cB a_d a_dg a_d2 a_dg2 v_below v_dF v_below2 v_dF2) → va_S A s.heap H locs → ∀ (ls : Array Slot), lv_has ls 4 [(0, .ref a_d), (1, .ref a_d2), (2, .int w_4.1), (3, .int w_4.2)] → W p l e rmX1_isSmallerThan s m ([.ref a_d, .ref a_d2] : List Value).toArray below meth c H locs 0 0 (MQ below (qX1_isSmallerThan D cI cB a_d a_dg a_d2 a_dg2 v_below v_dF v_below2 v_dF2 A) ([.ref a_d, .ref a_d2] : List Value).toArray s 0 0 A) (F0 m 4 ls []) := by
    intro n9
    induction n9 with
    | zero => intro w_4 hm9; exact absurd hm9 (Nat.not_lt_zero _)
    | succ n9 ih =>
      intro w_4 hm9 hI9 hL9 H locs hP hD hS ls hl
      have hI_4 := hI9
      refine lv_iload_n hx hb dX1_isSmallerThan_4 rfl (lv_at hl 3 rfl) ?_
      refine lv_bipush (v := 32) hx hb dX1_isSmallerThan_5 (by decide) ?_
      refine lv_icmp_ge (tgt := 49) hx hb dX1_isSmallerThan_7 (by decide) (fun c_7 => ?_) (fun c_7 => ?_)
      · skip
        have hg9 : (w_4.1, w_4.2) = g_4 := by rw [← hL9]; simp only [LX1_isSmallerThan_4, if_pos c_7]
        subst hg9
        exact K_4_0 _ _ hP hD hS ls (lv_sub hl [0, 1, 2, 3] rfl)
      · skip
        refine lv_aload_n hx hb dX1_isSmallerThan_10 rfl (lv_at hl 0 rfl) ?_
        refine va_get (D := D) (ci := 1) (v := .ref a_dg) (C := RX1) (T := TX1) (N := 2) hx hb hts in_X1 hown hK hP 0 rfl rfl 0 (by decide) q_0 (fun _ h9 => h9) rfl dX1_isSmallerThan_11 ?_
        refine lv_iload_n hx hb dX1_isSmallerThan_14 rfl (lv_at hl 3 rfl) ?_
        refine va_iald hx hb hK hP 1 0 rfl rfl (by first | with_reducible assumption | exact vin_of (b := 32) (by decide) (by with_reducible assumption) (by with_reducible assumption) | exact vin_of (b := 32) (by decide) (Int32.not_lt.mp (by with_reducible assumption)) (by with_reducible assumption) | exact vin_dn (by decide) (by with_reducible assumption) hI9) dX1_isSmallerThan_15 ?_
        refine lv_aload_n hx hb dX1_isSmallerThan_16 rfl (lv_at hl 1 rfl) ?_
        refine va_get (D := D) (ci := 1) (v := .ref a_dg2) (C := RX1) (T := TX1) (N := 2) hx hb hts in_X1 hown hK hP 2 rfl rfl 0 (by decide) q_0 (fun _ h9 => h9) rfl dX1_isSmallerThan_17 ?_
        refine lv_iload_n hx hb dX1_isSmallerThan_20 rfl (lv_at hl 3 rfl) ?_
        refine va_iald hx hb hK hP 3 0 rfl rfl (by first | with_reducible assumption | exact vin_of (b := 32) (by decide) (by with_reducible assumption) (by with_reducible assumption) | exact vin_of (b := 32) (by decide) (Int32.not_lt.mp (by with_reducible assumption)) (by with_reducible assumption) | exact vin_dn (by decide) (by with_reducible assumption) hI9) dX1_isSmallerThan_21 ?_
        have J_42 : ∀ (m_42 : Int32), m_42 = (if (v_dF (w_4.2 : Int32).toNatClampNeg) = (v_dF2 (w_4.2 : Int32).toNatClampNeg) then (w_4.1) else (((v_dF (w_4.2 : Int32).toNatClampNeg) - (v_dF2 (w_4.2 : Int32).toNatClampNeg)))) → ∀ (H : Heap) (locs : List Loc), va_P D vwCl (wX1_isSmallerThan cI cB a_d a_dg a_d2 a_dg2 v_below v_dF v_below2 v_dF2) H → va_D A (wX1_isSmallerThan cI cB a_d a_dg a_d2 a_dg2 v_below v_dF v_below2 v_dF2) → va_S A s.heap H locs → ∀ (ls : Array Slot), lv_has ls 4 [(0, .ref a_d), (1, .ref a_d2), (2, .int w_4.1), (3, .int w_4.2)] → W p l e rmX1_isSmallerThan s m ([.ref a_d, .ref a_d2] : List Value).toArray below meth c H locs 0 0 (MQ below (qX1_isSmallerThan D cI cB a_d a_dg a_d2 a_dg2 v_below v_dF v_below2 v_dF2 A) ([.ref a_d, .ref a_d2] : List Value).toArray s 0 0 A) (F0 m 42 ls [.int m_42]) := by
          intro m_42 em_42 H locs hP hD hS ls hl
          refine lv_istore_n (lv' := [(2, .int m_42), (0, .ref a_d), (1, .ref a_d2), (3, .int w_4.2)]) hx hb dX1_isSmallerThan_42 rfl hl (by decide) rfl (fun ls hl => ?_)
          obtain ⟨x_43, ex_43⟩ : ∃ z : Int32, z = w_4.2 + 1 := ⟨_, rfl⟩
          refine lv_iinc (v := x_43) (lv' := [(3, .int x_43), (2, .int m_42), (0, .ref a_d), (1, .ref a_d2)]) hx hb dX1_isSmallerThan_43 hl (k := 3) rfl (by rw [ex_43]; rfl) (by decide) rfl (fun ls hl => ?_)
          refine lv_goto (tgt := 4) hx hb dX1_isSmallerThan_46 (by decide) ?_
          exact ih (m_42, x_43) (by subst ex_43; subst em_42;  exact Nat.lt_of_lt_of_le (ms_up c_7) (Nat.le_of_lt_succ hm9)) (by subst ex_43; subst em_42;  exact nn_up hI9 c_7) (by rw [← hL9]; subst ex_43; subst em_42; simp only [LX1_isSmallerThan_4, if_neg c_7]) _ _ hP hD hS ls (lv_sub hl [2, 3, 1, 0] rfl)
        refine lv_icmp_ne (tgt := 29) hx hb dX1_isSmallerThan_22 (by decide) (fun c_22 => ?_) (fun c_22 => ?_)
        · skip
          refine lv_aload_n hx hb dX1_isSmallerThan_29 rfl (lv_at hl 0 rfl) ?_
          refine va_get (D := D) (ci := 1) (v := .ref a_dg) (C := RX1) (T := TX1) (N := 2) hx hb hts in_X1 hown hK hP 0 rfl rfl 0 (by decide) q_0 (fun _ h9 => h9) rfl dX1_isSmallerThan_30 ?_
          refine lv_iload_n hx hb dX1_isSmallerThan_33 rfl (lv_at hl 3 rfl) ?_
          refine va_iald hx hb hK hP 1 0 rfl rfl (by first | with_reducible assumption | exact vin_of (b := 32) (by decide) (by with_reducible assumption) (by with_reducible assumption) | exact vin_of (b := 32) (by decide) (Int32.not_lt.mp (by with_reducible assumption)) (by with_reducible assumption) | exact vin_dn (by decide) (by with_reducible assumption) hI9) dX1_isSmallerThan_34 ?_
          refine lv_aload_n hx hb dX1_isSmallerThan_35 rfl (lv_at hl 1 rfl) ?_
          refine va_get (D := D) (ci := 1) (v := .ref a_dg2) (C := RX1) (T := TX1) (N := 2) hx hb hts in_X1 hown hK hP 2 rfl rfl 0 (by decide) q_0 (fun _ h9 => h9) rfl dX1_isSmallerThan_36 ?_
          refine lv_iload_n hx hb dX1_isSmallerThan_39 rfl (lv_at hl 3 rfl) ?_
          refine va_iald hx hb hK hP 3 0 rfl rfl (by first | with_reducible assumption | exact vin_of (b := 32) (by decide) (by with_reducible assumption) (by with_reducible assumption) | exact vin_of (b := 32) (by decide) (Int32.not_lt.mp (by with_reducible assumption)) (by with_reducible assumption) | exact vin_dn (by decide) (by with_reducible assumption) hI9) dX1_isSmallerThan_40 ?_
          refine lv_isub hx hb dX1_isSmallerThan_41 ?_
          exact J_42 ((v_dF (w_4.2 : Int32).toNatClampNeg) - (v_dF2 (w_4.2 : Int32).toNatClampNeg)) (by simp only [if_neg c_22]) _ _ hP hD hS ls (lv_sub hl [0, 1, 2, 3] rfl)
        · skip
          refine lv_iload_n hx hb dX1_isSmallerThan_25 rfl (lv_at hl 2 rfl) ?_
          refine lv_goto (tgt := 42) hx hb dX1_isSmallerThan_26 (by decide) ?_
          exact J_42 w_4.1 (by simp only [if_pos c_22]) _ _ hP hD hS ls (lv_sub hl [0, 1, 2, 3] rfl)
  exact lp_4 (msU 32 0 + 1) (0, 0) (Nat.lt_succ_self _) (by show (0 : Int32) ≤ 0; decide) eg_4.symm _ _ hP hD hS ls (lv_sub hl [2, 3, 1, 0] rfl)
theorem hdX1_isSmallerThan : yX1_isSmallerThan.cls = RX1 ∧ yX1_isSmallerThan.cls ≠ "java/lang/invoke/MethodHandle" ∧ yX1_isSmallerThan.cls ≠ "java/lang/invoke/VarHandle" ∧ (parseMethodDescriptor yX1_isSmallerThan.desc).map (fun d => d.parameters.length) = some 1 := by decide +kernel
