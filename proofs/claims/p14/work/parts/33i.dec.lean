noncomputable def LX12_order_3 (v_aaF : (Nat → Int32)) (v_abF : (Nat → Int32)) : Nat → Int32 → (Int32 × Nat)
  | 0, w_3 => (w_3, 0)
  | n9 + 1, w_3 =>
    if w_3 < 0 then ((w_3, 1)) else (if (v_aaF (w_3 : Int32).toNatClampNeg) = (v_abF (w_3 : Int32).toNatClampNeg) then (let x_31 := w_3 + (-1); LX12_order_3 v_aaF v_abF n9 (x_31)) else ((w_3, 0)))
noncomputable def fX12_order (v_aaF : (Nat → Int32)) (v_abF : (Nat → Int32)) : Int32 :=
  let g_3 := LX12_order_3 v_aaF v_abF (msD 79 + 1) 79
  if g_3.2 = 0 then (if (v_abF (g_3.1 : Int32).toNatClampNeg) ≤ (v_aaF (g_3.1 : Int32).toNatClampNeg) then (1) else ((-1))) else (0)
theorem ord_in0 {aa ab : Nat → Int32} : ∀ (n9 : Nat) (w : Int32), msD w < n9 → w ≤ 79 → (LX12_order_3 aa ab n9 w).2 = 0 → vp_in (LX12_order_3 aa ab n9 w).1 80
  | 0, _, h, _, _ => absurd h (Nat.not_lt_zero _)
  | n9 + 1, w, hm, h0, h => by
    simp only [LX12_order_3] at h ⊢
    by_cases c : w < 0
    · rw [if_pos c] at h; exact absurd h (show ¬ (1 : Nat) = 0 by decide)
    rw [if_neg c] at h ⊢
    by_cases c2 : aa w.toNatClampNeg = ab w.toNatClampNeg
    · rw [if_pos c2] at h ⊢
      exact ord_in0 n9 _ (Nat.lt_of_lt_of_le (ms_dn c) (Nat.le_of_lt_succ hm)) (le_dn h0 c) h
    · rw [if_neg c2]
      exact vin_dn (T := 79) (by decide) c h0
theorem ord_in {aa ab : Nat → Int32} {g : Int32 × Nat} (e : g = LX12_order_3 aa ab (msD 79 + 1) 79) (h : g.2 = 0) : vp_in g.1 80 := by
  rw [e] at h ⊢
  exact ord_in0 _ _ (Nat.lt_succ_self _) (by decide) h

abbrev wX12_order (cI cB : ClassId) (a_aa a_ab : Nat) (v_aaF : (Nat → Int32)) (v_abF : (Nat → Int32)) : va_W := [(a_aa, .inl (cI, 80, .inl v_aaF)), (a_ab, .inl (cI, 80, .inl v_abF))]
abbrev rmX12_order : Room := { frames := 0, cells := 0, slots := 0, locals := 0 }
abbrev qX12_order (D : va_G) (cI cB : ClassId) (a_aa a_ab : Nat) (v_aaF : (Nat → Int32)) (v_abF : (Nat → Int32)) : (Nat → Prop) → Array Value → State → Outcome → State → Prop := fun A9 => va_Qi (fun (r9 : Int32) (u9 : Unit) => r9 = fX12_order v_aaF v_abF) (fun u9 t9 => atW D (TYS cI cB) A9 (wX12_order cI cB a_aa a_ab v_aaF v_abF) t9) A9
set_option maxHeartbeats 4000000 in
set_option maxRecDepth 100000 in
theorem kX12_order (l : Launch) (D : va_G) (cI cB : ClassId) (a_aa a_ab : Nat) (sz : Nat) (v_aaF : (Nat → Int32)) (v_abF : (Nat → Int32)) : MetW l yX12_order (WK yX12_order cX12_order 3 (some .int)) rmX12_order D (TYS cI cB) (wX12_order cI cB a_aa a_ab v_aaF v_abF) sz [.ref a_aa, .ref a_ab] (qX12_order D cI cB a_aa a_ab v_aaF v_abF) 0 0 := by
  refine met_std (by decide) rfl (Nat.le_of_ble_eq_true rfl) ?_
  intro p e s m below meth c A ls H hx hb hr hml hown hts hlocks hA hP hK hD hS hNW hl
  have hl : lv_has ls 3 [(0, .ref a_aa), (1, .ref a_ab)] := hl
  refine lv_bipush (v := 79) hx hb dX12_order_0 (by decide) ?_
  refine lv_istore_n (lv' := [(2, .int 79), (0, .ref a_aa), (1, .ref a_ab)]) hx hb dX12_order_2 rfl hl (by decide) rfl (fun ls hl => ?_)
  obtain ⟨g_3, eg_3⟩ : ∃ z : (Int32 × Nat), z = LX12_order_3 v_aaF v_abF (msD 79 + 1) 79 := ⟨_, rfl⟩
  have K_3_0 : g_3.2 = 0 → ∀ (H : Heap) (locs : List Loc), va_P D vwCl (wX12_order cI cB a_aa a_ab v_aaF v_abF) H → va_D A (wX12_order cI cB a_aa a_ab v_aaF v_abF) → va_S A s.heap H locs → ∀ (ls : Array Slot), lv_has ls 3 [(0, .ref a_aa), (1, .ref a_ab), (2, .int g_3.1)] → W p l e rmX12_order s m ([.ref a_aa, .ref a_ab] : List Value).toArray below meth c H locs 0 0 (MQ below (qX12_order D cI cB a_aa a_ab v_aaF v_abF A) ([.ref a_aa, .ref a_ab] : List Value).toArray s 0 0 A) (F0 m 16 ls []) := by
    intro ex_3_0 H locs hP hD hS ls hl
    refine lv_aload_n hx hb dX12_order_16 rfl (lv_at hl 0 rfl) ?_
    refine lv_iload_n hx hb dX12_order_17 rfl (lv_at hl 2 rfl) ?_
    refine va_iald hx hb hK hP 0 0 rfl rfl (ord_in eg_3 ex_3_0) dX12_order_18 ?_
    refine lv_aload_n hx hb dX12_order_19 rfl (lv_at hl 1 rfl) ?_
    refine lv_iload_n hx hb dX12_order_20 rfl (lv_at hl 2 rfl) ?_
    refine va_iald hx hb hK hP 1 0 rfl rfl (ord_in eg_3 ex_3_0) dX12_order_21 ?_
    refine lv_icmp_ge (tgt := 29) hx hb dX12_order_22 (by decide) (fun c_22 => ?_) (fun c_22 => ?_)
    · skip
      refine lv_iconst (v := 1) hx hb dX12_order_29 (by decide) ?_
      have hf9 : 1 = fX12_order v_aaF v_abF := by simp only [fX12_order, ← eg_3]; (try simp only [if_pos ex_3_0, if_pos c_22])
      exact W.iret hx hb hr (fun t9 ht9 hW9 => ⟨⟨1, (), rfl, hf9, ⟨by rw [ht9]; exact hP, va_K.moved hW9.alike hK, hD⟩⟩, hS.F ht9⟩) hS.2.2 dX12_order_30
    · skip
      refine lv_iconst (v := (-1)) hx hb dX12_order_25 (by decide) ?_
      refine lv_goto (tgt := 30) hx hb dX12_order_26 (by decide) ?_
      have hf9 : (-1) = fX12_order v_aaF v_abF := by simp only [fX12_order, ← eg_3]; (try simp only [if_pos ex_3_0, if_neg c_22])
      exact W.iret hx hb hr (fun t9 ht9 hW9 => ⟨⟨(-1), (), rfl, hf9, ⟨by rw [ht9]; exact hP, va_K.moved hW9.alike hK, hD⟩⟩, hS.F ht9⟩) hS.2.2 dX12_order_30
  have K_3_1 : g_3.2 = 1 → ∀ (H : Heap) (locs : List Loc), va_P D vwCl (wX12_order cI cB a_aa a_ab v_aaF v_abF) H → va_D A (wX12_order cI cB a_aa a_ab v_aaF v_abF) → va_S A s.heap H locs → ∀ (ls : Array Slot), lv_has ls 3 [(0, .ref a_aa), (1, .ref a_ab), (2, .int g_3.1)] → W p l e rmX12_order s m ([.ref a_aa, .ref a_ab] : List Value).toArray below meth c H locs 0 0 (MQ below (qX12_order D cI cB a_aa a_ab v_aaF v_abF A) ([.ref a_aa, .ref a_ab] : List Value).toArray s 0 0 A) (F0 m 37 ls []) := by
    intro ex_3_1 H locs hP hD hS ls hl
    have exn_3_1_0 : ¬ g_3.2 = 0 := by rw [ex_3_1]; decide
    refine lv_iconst (v := 0) hx hb dX12_order_37 (by decide) ?_
    have hf9 : 0 = fX12_order v_aaF v_abF := by simp only [fX12_order, ← eg_3]; (try simp only [if_neg exn_3_1_0])
    exact W.iret hx hb hr (fun t9 ht9 hW9 => ⟨⟨0, (), rfl, hf9, ⟨by rw [ht9]; exact hP, va_K.moved hW9.alike hK, hD⟩⟩, hS.F ht9⟩) hS.2.2 dX12_order_38
  have lp_3 : ∀ (n9 : Nat) (w_3 : Int32), msD w_3 < n9 → w_3 ≤ 79 → LX12_order_3 v_aaF v_abF n9 w_3 = g_3 → ∀ (H : Heap) (locs : List Loc), va_P D vwCl (wX12_order cI cB a_aa a_ab v_aaF v_abF) H → va_D A (wX12_order cI cB a_aa a_ab v_aaF v_abF) → va_S A s.heap H locs → ∀ (ls : Array Slot), lv_has ls 3 [(0, .ref a_aa), (1, .ref a_ab), (2, .int w_3)] → W p l e rmX12_order s m ([.ref a_aa, .ref a_ab] : List Value).toArray below meth c H locs 0 0 (MQ below (qX12_order D cI cB a_aa a_ab v_aaF v_abF A) ([.ref a_aa, .ref a_ab] : List Value).toArray s 0 0 A) (F0 m 3 ls []) := by
    intro n9
    induction n9 with
    | zero => intro w_3 hm9; exact absurd hm9 (Nat.not_lt_zero _)
    | succ n9 ih =>
      intro w_3 hm9 hI9 hL9 H locs hP hD hS ls hl
      have hI_3 := hI9
      refine lv_iload_n hx hb dX12_order_3 rfl (lv_at hl 2 rfl) ?_
      refine lv_if_lt (tgt := 37) hx hb dX12_order_4 (by decide) (fun c_4 => ?_) (fun c_4 => ?_)
      · skip
        have hg9 : (w_3, 1) = g_3 := by rw [← hL9]; simp only [LX12_order_3]; (try simp only [if_pos c_4])
        subst hg9
        exact K_3_1 rfl _ _ hP hD hS ls (lv_sub hl [0, 1, 2] rfl)
      · skip
        refine lv_aload_n hx hb dX12_order_7 rfl (lv_at hl 0 rfl) ?_
        refine lv_iload_n hx hb dX12_order_8 rfl (lv_at hl 2 rfl) ?_
        refine va_iald hx hb hK hP 0 0 rfl rfl (by first | with_reducible assumption | exact vin_of (b := 80) (by decide) (by with_reducible assumption) (by with_reducible assumption) | exact vin_of (b := 80) (by decide) (Int32.not_lt.mp (by with_reducible assumption)) (by with_reducible assumption) | exact vin_dn (by decide) (by with_reducible assumption) hI9) dX12_order_9 ?_
        refine lv_aload_n hx hb dX12_order_10 rfl (lv_at hl 1 rfl) ?_
        refine lv_iload_n hx hb dX12_order_11 rfl (lv_at hl 2 rfl) ?_
        refine va_iald hx hb hK hP 1 0 rfl rfl (by first | with_reducible assumption | exact vin_of (b := 80) (by decide) (by with_reducible assumption) (by with_reducible assumption) | exact vin_of (b := 80) (by decide) (Int32.not_lt.mp (by with_reducible assumption)) (by with_reducible assumption) | exact vin_dn (by decide) (by with_reducible assumption) hI9) dX12_order_12 ?_
        refine lv_icmp_eq (tgt := 31) hx hb dX12_order_13 (by decide) (fun c_13 => ?_) (fun c_13 => ?_)
        · skip
          obtain ⟨x_31, ex_31⟩ : ∃ z : Int32, z = w_3 + (-1) := ⟨_, rfl⟩
          refine lv_iinc (v := x_31) (lv' := [(2, .int x_31), (0, .ref a_aa), (1, .ref a_ab)]) hx hb dX12_order_31 hl (k := 2) rfl (by rw [ex_31]; rfl) (by decide) rfl (fun ls hl => ?_)
          refine lv_goto (tgt := 3) hx hb dX12_order_34 (by decide) ?_
          exact ih x_31 (by subst ex_31;  exact Nat.lt_of_lt_of_le (ms_dn c_4) (Nat.le_of_lt_succ hm9)) (by subst ex_31;  exact le_dn hI9 c_4) (by rw [← hL9]; subst ex_31; simp only [LX12_order_3]; (try simp only [if_neg c_4, if_pos c_13])) _ _ hP hD hS ls (lv_sub hl [1, 2, 0] rfl)
        · skip
          have hg9 : (w_3, 0) = g_3 := by rw [← hL9]; simp only [LX12_order_3]; (try simp only [if_neg c_4, if_neg c_13])
          subst hg9
          exact K_3_0 rfl _ _ hP hD hS ls (lv_sub hl [0, 1, 2] rfl)
  exact lp_3 (msD 79 + 1) 79 (Nat.lt_succ_self _) (by show (79 : Int32) ≤ 79; decide) eg_3.symm _ _ hP hD hS ls (lv_sub hl [1, 2, 0] rfl)
theorem hdX12_order : yX12_order.cls = RX12 ∧ yX12_order.cls ≠ "java/lang/invoke/MethodHandle" ∧ yX12_order.cls ≠ "java/lang/invoke/VarHandle" ∧ (parseMethodDescriptor yX12_order.desc).map (fun d => d.parameters.length) = some 2 := by decide +kernel
noncomputable def LX12_isZero_2 (v_aaF : (Nat → Int32)) : Nat → Int32 → (Int32 × Nat)
  | 0, w_2 => (w_2, 0)
  | n9 + 1, w_2 =>
    if 80 ≤ w_2 then ((w_2, 1)) else (if (v_aaF (w_2 : Int32).toNatClampNeg) = 0 then (let x_16 := w_2 + 1; LX12_isZero_2 v_aaF n9 (x_16)) else ((w_2, 0)))
noncomputable def fX12_isZero (v_aaF : (Nat → Int32)) : Int32 :=
  let g_2 := LX12_isZero_2 v_aaF (msU 80 0 + 1) 0
  if g_2.2 = 0 then (0) else (1)
theorem zX12_isZero (v_aaF : (Nat → Int32)) : (fX12_isZero v_aaF) = 0 ∨ (fX12_isZero v_aaF) = 1 := by simp only [fX12_isZero]; (repeat' split) <;> first | exact Or.inl rfl | exact Or.inr rfl
abbrev wX12_isZero (cI cB : ClassId) (a_aa : Nat) (v_aaF : (Nat → Int32)) : va_W := [(a_aa, .inl (cI, 80, .inl v_aaF))]
abbrev rmX12_isZero : Room := { frames := 0, cells := 0, slots := 0, locals := 0 }
abbrev qX12_isZero (D : va_G) (cI cB : ClassId) (a_aa : Nat) (v_aaF : (Nat → Int32)) : (Nat → Prop) → Array Value → State → Outcome → State → Prop := fun A9 => va_Qi (fun (r9 : Int32) (u9 : Unit) => r9 = fX12_isZero v_aaF) (fun u9 t9 => atW D (TYS cI cB) A9 (wX12_isZero cI cB a_aa v_aaF) t9) A9
set_option maxHeartbeats 4000000 in
set_option maxRecDepth 100000 in
theorem kX12_isZero (l : Launch) (D : va_G) (cI cB : ClassId) (a_aa : Nat) (sz : Nat) (v_aaF : (Nat → Int32)) : MetW l yX12_isZero (WK yX12_isZero cX12_isZero 2 (some .boolean)) rmX12_isZero D (TYS cI cB) (wX12_isZero cI cB a_aa v_aaF) sz [.ref a_aa] (qX12_isZero D cI cB a_aa v_aaF) 0 0 := by
  refine met_std (by decide) rfl (Nat.le_of_ble_eq_true rfl) ?_
  intro p e s m below meth c A ls H hx hb hr hml hown hts hlocks hA hP hK hD hS hNW hl
  have hl : lv_has ls 2 [(0, .ref a_aa)] := hl
  refine lv_iconst (v := 0) hx hb dX12_isZero_0 (by decide) ?_
  refine lv_istore_n (lv' := [(1, .int 0), (0, .ref a_aa)]) hx hb dX12_isZero_1 rfl hl (by decide) rfl (fun ls hl => ?_)
  obtain ⟨g_2, eg_2⟩ : ∃ z : (Int32 × Nat), z = LX12_isZero_2 v_aaF (msU 80 0 + 1) 0 := ⟨_, rfl⟩
  have K_2_0 : g_2.2 = 0 → ∀ (H : Heap) (locs : List Loc), va_P D vwCl (wX12_isZero cI cB a_aa v_aaF) H → va_D A (wX12_isZero cI cB a_aa v_aaF) → va_S A s.heap H locs → ∀ (ls : Array Slot), lv_has ls 2 [(0, .ref a_aa), (1, .int g_2.1)] → W p l e rmX12_isZero s m ([.ref a_aa] : List Value).toArray below meth c H locs 0 0 (MQ below (qX12_isZero D cI cB a_aa v_aaF A) ([.ref a_aa] : List Value).toArray s 0 0 A) (F0 m 14 ls []) := by
    intro ex_2_0 H locs hP hD hS ls hl
    refine lv_iconst (v := 0) hx hb dX12_isZero_14 (by decide) ?_
    have hf9 : 0 = fX12_isZero v_aaF := by simp only [fX12_isZero, ← eg_2]; (try simp only [if_pos ex_2_0])
    exact W.zret hx hb hr (by decide) (fun t9 ht9 hW9 => ⟨⟨0, (), rfl, hf9, ⟨by rw [ht9]; exact hP, va_K.moved hW9.alike hK, hD⟩⟩, hS.F ht9⟩) hS.2.2 dX12_isZero_15
  have K_2_1 : g_2.2 = 1 → ∀ (H : Heap) (locs : List Loc), va_P D vwCl (wX12_isZero cI cB a_aa v_aaF) H → va_D A (wX12_isZero cI cB a_aa v_aaF) → va_S A s.heap H locs → ∀ (ls : Array Slot), lv_has ls 2 [(0, .ref a_aa), (1, .int g_2.1)] → W p l e rmX12_isZero s m ([.ref a_aa] : List Value).toArray below meth c H locs 0 0 (MQ below (qX12_isZero D cI cB a_aa v_aaF A) ([.ref a_aa] : List Value).toArray s 0 0 A) (F0 m 22 ls []) := by
    intro ex_2_1 H locs hP hD hS ls hl
    have exn_2_1_0 : ¬ g_2.2 = 0 := by rw [ex_2_1]; decide
    refine lv_iconst (v := 1) hx hb dX12_isZero_22 (by decide) ?_
    have hf9 : 1 = fX12_isZero v_aaF := by simp only [fX12_isZero, ← eg_2]; (try simp only [if_neg exn_2_1_0])
    exact W.zret hx hb hr (by decide) (fun t9 ht9 hW9 => ⟨⟨1, (), rfl, hf9, ⟨by rw [ht9]; exact hP, va_K.moved hW9.alike hK, hD⟩⟩, hS.F ht9⟩) hS.2.2 dX12_isZero_23
  have lp_2 : ∀ (n9 : Nat) (w_2 : Int32), msU 80 w_2 < n9 → 0 ≤ w_2 → LX12_isZero_2 v_aaF n9 w_2 = g_2 → ∀ (H : Heap) (locs : List Loc), va_P D vwCl (wX12_isZero cI cB a_aa v_aaF) H → va_D A (wX12_isZero cI cB a_aa v_aaF) → va_S A s.heap H locs → ∀ (ls : Array Slot), lv_has ls 2 [(0, .ref a_aa), (1, .int w_2)] → W p l e rmX12_isZero s m ([.ref a_aa] : List Value).toArray below meth c H locs 0 0 (MQ below (qX12_isZero D cI cB a_aa v_aaF A) ([.ref a_aa] : List Value).toArray s 0 0 A) (F0 m 2 ls []) := by
    intro n9
    induction n9 with
    | zero => intro w_2 hm9; exact absurd hm9 (Nat.not_lt_zero _)
    | succ n9 ih =>
      intro w_2 hm9 hI9 hL9 H locs hP hD hS ls hl
      have hI_2 := hI9
      refine lv_iload_n hx hb dX12_isZero_2 rfl (lv_at hl 1 rfl) ?_
      refine lv_bipush (v := 80) hx hb dX12_isZero_3 (by decide) ?_
      refine lv_icmp_ge (tgt := 22) hx hb dX12_isZero_5 (by decide) (fun c_5 => ?_) (fun c_5 => ?_)
      · skip
        have hg9 : (w_2, 1) = g_2 := by rw [← hL9]; simp only [LX12_isZero_2]; (try simp only [if_pos c_5])
        subst hg9
        exact K_2_1 rfl _ _ hP hD hS ls (lv_sub hl [0, 1] rfl)
      · skip
        refine lv_aload_n hx hb dX12_isZero_8 rfl (lv_at hl 0 rfl) ?_
        refine lv_iload_n hx hb dX12_isZero_9 rfl (lv_at hl 1 rfl) ?_
        refine va_iald hx hb hK hP 0 0 rfl rfl (by first | with_reducible assumption | exact vin_of (b := 80) (by decide) (by with_reducible assumption) (by with_reducible assumption) | exact vin_of (b := 80) (by decide) (Int32.not_lt.mp (by with_reducible assumption)) (by with_reducible assumption) | exact vin_dn (by decide) (by with_reducible assumption) hI9) dX12_isZero_10 ?_
        refine lv_if_eq (tgt := 16) hx hb dX12_isZero_11 (by decide) (fun c_11 => ?_) (fun c_11 => ?_)
        · skip
          obtain ⟨x_16, ex_16⟩ : ∃ z : Int32, z = w_2 + 1 := ⟨_, rfl⟩
          refine lv_iinc (v := x_16) (lv' := [(1, .int x_16), (0, .ref a_aa)]) hx hb dX12_isZero_16 hl (k := 1) rfl (by rw [ex_16]; rfl) (by decide) rfl (fun ls hl => ?_)
          refine lv_goto (tgt := 2) hx hb dX12_isZero_19 (by decide) ?_
          exact ih x_16 (by subst ex_16;  exact Nat.lt_of_lt_of_le (ms_up c_5) (Nat.le_of_lt_succ hm9)) (by subst ex_16;  exact nn_up hI9 c_5) (by rw [← hL9]; subst ex_16; simp only [LX12_isZero_2]; (try simp only [if_neg c_5, if_pos c_11])) _ _ hP hD hS ls (lv_sub hl [1, 0] rfl)
        · skip
          have hg9 : (w_2, 0) = g_2 := by rw [← hL9]; simp only [LX12_isZero_2]; (try simp only [if_neg c_5, if_neg c_11])
          subst hg9
          exact K_2_0 rfl _ _ hP hD hS ls (lv_sub hl [0, 1] rfl)
  exact lp_2 (msU 80 0 + 1) 0 (Nat.lt_succ_self _) (by show (0 : Int32) ≤ 0; decide) eg_2.symm _ _ hP hD hS ls (lv_sub hl [1, 0] rfl)
theorem hdX12_isZero : yX12_isZero.cls = RX12 ∧ yX12_isZero.cls ≠ "java/lang/invoke/MethodHandle" ∧ yX12_isZero.cls ≠ "java/lang/invoke/VarHandle" ∧ (parseMethodDescriptor yX12_isZero.desc).map (fun d => d.parameters.length) = some 1 := by decide +kernel
noncomputable def LX12_addDigits_6 (x2 : Int32) (v_aaF : (Nat → Int32)) (v_abF : (Nat → Int32)) : Nat → ((Nat → Int32) × Int32 × Int32) → ((Nat → Int32) × Int32 × Int32)
  | 0, w_6 => w_6
  | n9 + 1, w_6 =>
    if 80 ≤ w_6.2.2 then ((w_6.1, w_6.2.1, w_6.2.2)) else (let x_27 := (((v_aaF (w_6.2.2 : Int32).toNatClampNeg) + (x2 * (v_abF (w_6.2.2 : Int32).toNatClampNeg))) + w_6.2.1); let m_50 : Int32 := (if x_27 ≤ 9 then (if 0 ≤ x_27 then (0) else ((-1))) else (1)); let f_66 := upd w_6.1 (w_6.2.2 : Int32).toNatClampNeg ((x_27 - (10 * m_50))); let x_67 := w_6.2.2 + 1; LX12_addDigits_6 x2 v_aaF v_abF n9 (f_66, m_50, x_67))
noncomputable def fX12_addDigits (x2 : Int32) (v_mmF : (Nat → Int32)) (v_aaF : (Nat → Int32)) (v_abF : (Nat → Int32)) : (Nat → Int32) :=
  let g_6 := LX12_addDigits_6 x2 v_aaF v_abF (msU 80 0 + 1) (v_mmF, 0, 0)
  g_6.1
abbrev wX12_addDigits (cI cB : ClassId) (a_mo a_mem a_mks a_mr a_cnt a_wd a_one a_two a_mmade a_mrest a_old a_aa a_ab : Nat) (v_thrown : Int32) (v_mask : Int32) (v_key : Int32) (v_wait : Int32) (v_problem : Int32) (v_code : Int32) (v_length : Int32) (v_cond : Int32) (v_masks : Int32) (v_addr : Int32) (v_mwanted : Int32) (v_wrong : Int32) (v_after : Int32) (v_calls : Int32) (v_oneB : Int32) (v_twoB : Int32) (v_mmF : (Nat → Int32)) (v_aaF : (Nat → Int32)) (v_abF : (Nat → Int32)) : va_W := [(a_mo, .inr (12, [.int v_thrown, .ref a_mem, .ref a_mks, .ref a_mr, .int v_mask, .int v_key, .int v_wait, .int v_problem, .int v_code, .int v_length, .int v_cond, .int v_masks, .int v_addr, .int v_mwanted, .ref a_cnt, .ref a_wd, .int v_wrong, .int v_after, .int v_calls, .ref a_one, .int v_oneB, .ref a_two, .int v_twoB, .ref a_mmade, .ref a_mrest, .ref a_old])), (a_mmade, .inl (cI, 80, .inl v_mmF)), (a_aa, .inl (cI, 80, .inl v_aaF)), (a_ab, .inl (cI, 80, .inl v_abF))]
abbrev rmX12_addDigits : Room := { frames := 0, cells := 0, slots := 0, locals := 0 }
abbrev qX12_addDigits (D : va_G) (cI cB : ClassId) (a_mo a_mem a_mks a_mr a_cnt a_wd a_one a_two a_mmade a_mrest a_old a_aa a_ab : Nat) (v_thrown : Int32) (v_mask : Int32) (v_key : Int32) (v_wait : Int32) (v_problem : Int32) (v_code : Int32) (v_length : Int32) (v_cond : Int32) (v_masks : Int32) (v_addr : Int32) (v_mwanted : Int32) (v_wrong : Int32) (v_after : Int32) (v_calls : Int32) (v_oneB : Int32) (v_twoB : Int32) (v_mmF : (Nat → Int32)) (v_aaF : (Nat → Int32)) (v_abF : (Nat → Int32)) (x2 : Int32) : (Nat → Prop) → Array Value → State → Outcome → State → Prop := fun A9 => va_Qv (fun (u9 : (Nat → Int32)) => u9 = fX12_addDigits x2 v_mmF v_aaF v_abF) (fun u9 t9 => atW D (TYS cI cB) A9 (wX12_addDigits cI cB a_mo a_mem a_mks a_mr a_cnt a_wd a_one a_two a_mmade a_mrest a_old a_aa a_ab v_thrown v_mask v_key v_wait v_problem v_code v_length v_cond v_masks v_addr v_mwanted v_wrong v_after v_calls v_oneB v_twoB u9 v_aaF v_abF) t9) A9
set_option maxHeartbeats 4000000 in
set_option maxRecDepth 100000 in
theorem kX12_addDigits (l : Launch) (D : va_G) (cI cB : ClassId) (a_mo a_mem a_mks a_mr a_cnt a_wd a_one a_two a_mmade a_mrest a_old a_aa a_ab : Nat) (sz : Nat) (v_thrown : Int32) (v_mask : Int32) (v_key : Int32) (v_wait : Int32) (v_problem : Int32) (v_code : Int32) (v_length : Int32) (v_cond : Int32) (v_masks : Int32) (v_addr : Int32) (v_mwanted : Int32) (v_wrong : Int32) (v_after : Int32) (v_calls : Int32) (v_oneB : Int32) (v_twoB : Int32) (v_mmF : (Nat → Int32)) (v_aaF : (Nat → Int32)) (v_abF : (Nat → Int32)) (x2 : Int32) : MetW l yX12_addDigits (WK yX12_addDigits cX12_addDigits 7 none) rmX12_addDigits D (TYS cI cB) (wX12_addDigits cI cB a_mo a_mem a_mks a_mr a_cnt a_wd a_one a_two a_mmade a_mrest a_old a_aa a_ab v_thrown v_mask v_key v_wait v_problem v_code v_length v_cond v_masks v_addr v_mwanted v_wrong v_after v_calls v_oneB v_twoB v_mmF v_aaF v_abF) sz [.ref a_mo, .ref a_aa, .ref a_ab, .int x2] (qX12_addDigits D cI cB a_mo a_mem a_mks a_mr a_cnt a_wd a_one a_two a_mmade a_mrest a_old a_aa a_ab v_thrown v_mask v_key v_wait v_problem v_code v_length v_cond v_masks v_addr v_mwanted v_wrong v_after v_calls v_oneB v_twoB v_mmF v_aaF v_abF x2) 0 0 := by
  refine met_std (by decide) rfl (Nat.le_of_ble_eq_true rfl) ?_
  intro p e s m below meth c A ls H hx hb hr hml hown hts hlocks hA hP hK hD hS hNW hl
  have hl : lv_has ls 7 [(0, .ref a_mo), (1, .ref a_aa), (2, .ref a_ab), (3, .int x2)] := hl
  have q_0 := hts _ (List.mem_cons_of_mem _ wd_784)
  refine lv_iconst (v := 0) hx hb dX12_addDigits_0 (by decide) ?_
  refine lv_istore (lv' := [(4, .int 0), (0, .ref a_mo), (1, .ref a_aa), (2, .ref a_ab), (3, .int x2)]) hx hb dX12_addDigits_1 hl (by decide) rfl (fun ls hl => ?_)
  refine lv_iconst (v := 0) hx hb dX12_addDigits_3 (by decide) ?_
  refine lv_istore (lv' := [(5, .int 0), (4, .int 0), (0, .ref a_mo), (1, .ref a_aa), (2, .ref a_ab), (3, .int x2)]) hx hb dX12_addDigits_4 hl (by decide) rfl (fun ls hl => ?_)
  obtain ⟨g_6, eg_6⟩ : ∃ z : ((Nat → Int32) × Int32 × Int32), z = LX12_addDigits_6 x2 v_aaF v_abF (msU 80 0 + 1) (v_mmF, 0, 0) := ⟨_, rfl⟩
  have K_6_0 : ∀ (H : Heap) (locs : List Loc), va_P D vwCl (wX12_addDigits cI cB a_mo a_mem a_mks a_mr a_cnt a_wd a_one a_two a_mmade a_mrest a_old a_aa a_ab v_thrown v_mask v_key v_wait v_problem v_code v_length v_cond v_masks v_addr v_mwanted v_wrong v_after v_calls v_oneB v_twoB g_6.1 v_aaF v_abF) H → va_D A (wX12_addDigits cI cB a_mo a_mem a_mks a_mr a_cnt a_wd a_one a_two a_mmade a_mrest a_old a_aa a_ab v_thrown v_mask v_key v_wait v_problem v_code v_length v_cond v_masks v_addr v_mwanted v_wrong v_after v_calls v_oneB v_twoB g_6.1 v_aaF v_abF) → va_S A s.heap H locs → ∀ (ls : Array Slot), lv_has ls 7 [(0, .ref a_mo), (1, .ref a_aa), (2, .ref a_ab), (3, .int x2), (4, .int g_6.2.1), (5, .int g_6.2.2)] → W p l e rmX12_addDigits s m ([.ref a_mo, .ref a_aa, .ref a_ab, .int x2] : List Value).toArray below meth c H locs 0 0 (MQ below (qX12_addDigits D cI cB a_mo a_mem a_mks a_mr a_cnt a_wd a_one a_two a_mmade a_mrest a_old a_aa a_ab v_thrown v_mask v_key v_wait v_problem v_code v_length v_cond v_masks v_addr v_mwanted v_wrong v_after v_calls v_oneB v_twoB v_mmF v_aaF v_abF x2 A) ([.ref a_mo, .ref a_aa, .ref a_ab, .int x2] : List Value).toArray s 0 0 A) (F0 m 73 ls []) := by
    intro H locs hP hD hS ls hl
    have hf9 : g_6.1 = fX12_addDigits x2 v_mmF v_aaF v_abF := by simp only [fX12_addDigits, ← eg_6]
    exact W.vret hx hb hr (fun t9 ht9 hW9 => ⟨⟨g_6.1, rfl, hf9, ⟨by rw [ht9]; exact hP, va_K.moved hW9.alike hK, hD⟩⟩, hS.F ht9⟩) hS.2.2 dX12_addDigits_73
  have lp_6 : ∀ (n9 : Nat) (w_6 : ((Nat → Int32) × Int32 × Int32)), msU 80 w_6.2.2 < n9 → 0 ≤ w_6.2.2 → LX12_addDigits_6 x2 v_aaF v_abF n9 w_6 = g_6 → ∀ (H : Heap) (locs : List Loc), va_P D vwCl (wX12_addDigits cI cB a_mo a_mem a_mks a_mr a_cnt a_wd a_one a_two a_mmade a_mrest a_old a_aa a_ab v_thrown v_mask v_key v_wait v_problem v_code v_length v_cond v_masks v_addr v_mwanted v_wrong v_after v_calls v_oneB v_twoB w_6.1 v_aaF v_abF) H → va_D A (wX12_addDigits cI cB a_mo a_mem a_mks a_mr a_cnt a_wd a_one a_two a_mmade a_mrest a_old a_aa a_ab v_thrown v_mask v_key v_wait v_problem v_code v_length v_cond v_masks v_addr v_mwanted v_wrong v_after v_calls v_oneB v_twoB w_6.1 v_aaF v_abF) → va_S A s.heap H locs → ∀ (ls : Array Slot), lv_has ls 7 [(0, .ref a_mo), (1, .ref a_aa), (2, .ref a_ab), (3, .int x2), (4, .int w_6.2.1), (5, .int w_6.2.2)] → W p l e rmX12_addDigits s m ([.ref a_mo, .ref a_aa, .ref a_ab, .int x2] : List Value).toArray below meth c H locs 0 0 (MQ below (qX12_addDigits D cI cB a_mo a_mem a_mks a_mr a_cnt a_wd a_one a_two a_mmade a_mrest a_old a_aa a_ab v_thrown v_mask v_key v_wait v_problem v_code v_length v_cond v_masks v_addr v_mwanted v_wrong v_after v_calls v_oneB v_twoB v_mmF v_aaF v_abF x2 A) ([.ref a_mo, .ref a_aa, .ref a_ab, .int x2] : List Value).toArray s 0 0 A) (F0 m 6 ls []) := by
    intro n9
    induction n9 with
    | zero => intro w_6 hm9; exact absurd hm9 (Nat.not_lt_zero _)
    | succ n9 ih =>
      intro w_6 hm9 hI9 hL9 H locs hP hD hS ls hl
      have hI_6 := hI9
      refine lv_iload hx hb dX12_addDigits_6 (lv_at hl 5 rfl) ?_
      refine lv_bipush (v := 80) hx hb dX12_addDigits_8 (by decide) ?_
      refine lv_icmp_ge (tgt := 73) hx hb dX12_addDigits_10 (by decide) (fun c_10 => ?_) (fun c_10 => ?_)
      · skip
        have hg9 : (w_6.1, w_6.2.1, w_6.2.2) = g_6 := by rw [← hL9]; simp only [LX12_addDigits_6]; (try simp only [if_pos c_10])
        subst hg9
        exact K_6_0 _ _ hP hD hS ls (lv_sub hl [0, 1, 2, 3, 4, 5] rfl)
      · skip
        refine lv_aload_n hx hb dX12_addDigits_13 rfl (lv_at hl 1 rfl) ?_
        refine lv_iload hx hb dX12_addDigits_14 (lv_at hl 5 rfl) ?_
        refine va_iald hx hb hK hP 2 0 rfl rfl (by first | with_reducible assumption | exact vin_of (b := 80) (by decide) (by with_reducible assumption) (by with_reducible assumption) | exact vin_of (b := 80) (by decide) (Int32.not_lt.mp (by with_reducible assumption)) (by with_reducible assumption) | exact vin_dn (by decide) (by with_reducible assumption) hI9) dX12_addDigits_16 ?_
        refine lv_iload_n hx hb dX12_addDigits_17 rfl (lv_at hl 3 rfl) ?_
        refine lv_aload_n hx hb dX12_addDigits_18 rfl (lv_at hl 2 rfl) ?_
        refine lv_iload hx hb dX12_addDigits_19 (lv_at hl 5 rfl) ?_
        refine va_iald hx hb hK hP 3 0 rfl rfl (by first | with_reducible assumption | exact vin_of (b := 80) (by decide) (by with_reducible assumption) (by with_reducible assumption) | exact vin_of (b := 80) (by decide) (Int32.not_lt.mp (by with_reducible assumption)) (by with_reducible assumption) | exact vin_dn (by decide) (by with_reducible assumption) hI9) dX12_addDigits_21 ?_
        refine lv_imul hx hb dX12_addDigits_22 ?_
        refine lv_iadd hx hb dX12_addDigits_23 ?_
        refine lv_iload hx hb dX12_addDigits_24 (lv_at hl 4 rfl) ?_
        refine lv_iadd hx hb dX12_addDigits_26 ?_
        refine lv_topi (fun x_27 ex_27 => ?_)
        refine lv_istore (lv' := [(6, .int x_27), (0, .ref a_mo), (1, .ref a_aa), (2, .ref a_ab), (3, .int x2), (4, .int w_6.2.1), (5, .int w_6.2.2)]) hx hb dX12_addDigits_27 hl (by decide) rfl (fun ls hl => ?_)
        refine lv_iload hx hb dX12_addDigits_29 (lv_at hl 0 rfl) ?_
        refine lv_bipush (v := 9) hx hb dX12_addDigits_31 (by decide) ?_
        have J_50 : ∀ (m_50 : Int32), m_50 = (if x_27 ≤ 9 then (if 0 ≤ x_27 then (0) else ((-1))) else (1)) → ∀ (H : Heap) (locs : List Loc), va_P D vwCl (wX12_addDigits cI cB a_mo a_mem a_mks a_mr a_cnt a_wd a_one a_two a_mmade a_mrest a_old a_aa a_ab v_thrown v_mask v_key v_wait v_problem v_code v_length v_cond v_masks v_addr v_mwanted v_wrong v_after v_calls v_oneB v_twoB w_6.1 v_aaF v_abF) H → va_D A (wX12_addDigits cI cB a_mo a_mem a_mks a_mr a_cnt a_wd a_one a_two a_mmade a_mrest a_old a_aa a_ab v_thrown v_mask v_key v_wait v_problem v_code v_length v_cond v_masks v_addr v_mwanted v_wrong v_after v_calls v_oneB v_twoB w_6.1 v_aaF v_abF) → va_S A s.heap H locs → ∀ (ls : Array Slot), lv_has ls 7 [(0, .ref a_mo), (1, .ref a_aa), (2, .ref a_ab), (3, .int x2), (4, .int w_6.2.1), (5, .int w_6.2.2), (6, .int x_27)] → W p l e rmX12_addDigits s m ([.ref a_mo, .ref a_aa, .ref a_ab, .int x2] : List Value).toArray below meth c H locs 0 0 (MQ below (qX12_addDigits D cI cB a_mo a_mem a_mks a_mr a_cnt a_wd a_one a_two a_mmade a_mrest a_old a_aa a_ab v_thrown v_mask v_key v_wait v_problem v_code v_length v_cond v_masks v_addr v_mwanted v_wrong v_after v_calls v_oneB v_twoB v_mmF v_aaF v_abF x2 A) ([.ref a_mo, .ref a_aa, .ref a_ab, .int x2] : List Value).toArray s 0 0 A) (F0 m 50 ls [.int m_50]) := by
          intro m_50 em_50 H locs hP hD hS ls hl
          try dsimp only at em_50
          refine lv_istore (lv' := [(4, .int m_50), (0, .ref a_mo), (1, .ref a_aa), (2, .ref a_ab), (3, .int x2), (5, .int w_6.2.2), (6, .int x_27)]) hx hb dX12_addDigits_50 hl (by decide) rfl (fun ls hl => ?_)
          refine lv_aload_n hx hb dX12_addDigits_52 rfl (lv_at hl 1 rfl) ?_
          refine va_get (D := D) (ci := 12) (v := .ref a_mmade) (C := RX12) (T := TX12) (N := 26) hx hb hts in_X12 hown hK hP 0 rfl rfl 23 (by decide) q_0 (fun _ h9 => h9) rfl dX12_addDigits_53 ?_
          refine lv_iload hx hb dX12_addDigits_56 (lv_at hl 5 rfl) ?_
          refine lv_iload hx hb dX12_addDigits_58 (lv_at hl 6 rfl) ?_
          refine lv_bipush (v := 10) hx hb dX12_addDigits_60 (by decide) ?_
          refine lv_iload hx hb dX12_addDigits_62 (lv_at hl 0 rfl) ?_
          refine lv_imul hx hb dX12_addDigits_64 ?_
          refine lv_isub hx hb dX12_addDigits_65 ?_
          refine va_iast hx hb hK hP hD hS 1 0 rfl rfl (by first | with_reducible assumption | exact vin_of (b := 80) (by decide) (by with_reducible assumption) (by with_reducible assumption) | exact vin_of (b := 80) (by decide) (Int32.not_lt.mp (by with_reducible assumption)) (by with_reducible assumption) | exact vin_dn (by decide) (by with_reducible assumption) hI9) dX12_addDigits_66 (fun H locs hP hD hS => ?_)
          obtain ⟨f_66, ef_66⟩ : ∃ z : Nat → Int32, z = upd w_6.1 (w_6.2.2 : Int32).toNatClampNeg ((x_27 - (10 * m_50))) := ⟨_, rfl⟩
          have hP : va_P D vwCl (wX12_addDigits cI cB a_mo a_mem a_mks a_mr a_cnt a_wd a_one a_two a_mmade a_mrest a_old a_aa a_ab v_thrown v_mask v_key v_wait v_problem v_code v_length v_cond v_masks v_addr v_mwanted v_wrong v_after v_calls v_oneB v_twoB (upd w_6.1 (w_6.2.2 : Int32).toNatClampNeg ((x_27 - (10 * m_50)))) v_aaF v_abF) H := hP
          have hD : va_D A (wX12_addDigits cI cB a_mo a_mem a_mks a_mr a_cnt a_wd a_one a_two a_mmade a_mrest a_old a_aa a_ab v_thrown v_mask v_key v_wait v_problem v_code v_length v_cond v_masks v_addr v_mwanted v_wrong v_after v_calls v_oneB v_twoB (upd w_6.1 (w_6.2.2 : Int32).toNatClampNeg ((x_27 - (10 * m_50)))) v_aaF v_abF) := hD
          rw [← ef_66] at hP hD
          obtain ⟨x_67, ex_67⟩ : ∃ z : Int32, z = w_6.2.2 + 1 := ⟨_, rfl⟩
          refine lv_iinc (v := x_67) (lv' := [(5, .int x_67), (4, .int m_50), (0, .ref a_mo), (1, .ref a_aa), (2, .ref a_ab), (3, .int x2), (6, .int x_27)]) hx hb dX12_addDigits_67 hl (k := 5) rfl (by rw [ex_67]; rfl) (by decide) rfl (fun ls hl => ?_)
          refine lv_goto (tgt := 6) hx hb dX12_addDigits_70 (by decide) ?_
          exact ih (f_66, m_50, x_67) (by subst ex_67; subst ef_66; subst em_50; subst ex_27;  exact Nat.lt_of_lt_of_le (ms_up c_10) (Nat.le_of_lt_succ hm9)) (by subst ex_67; subst ef_66; subst em_50; subst ex_27;  exact nn_up hI9 c_10) (by rw [← hL9]; subst ex_67; subst ef_66; subst ex_27; simp only [LX12_addDigits_6, ← em_50]; (try simp only [if_neg c_10])) _ _ hP hD hS ls (lv_sub hl [2, 3, 4, 5, 1, 0] rfl)
        refine lv_icmp_le (tgt := 40) hx hb dX12_addDigits_33 (by decide) (fun c_33 => ?_) (fun c_33 => ?_)
        · skip
          refine lv_iload hx hb dX12_addDigits_40 (lv_at hl 0 rfl) ?_
          refine lv_if_ge (tgt := 49) hx hb dX12_addDigits_42 (by decide) (fun c_42 => ?_) (fun c_42 => ?_)
          · skip
            refine lv_iconst (v := 0) hx hb dX12_addDigits_49 (by decide) ?_
            exact J_50 0 (by (try simp only [if_pos c_33, if_pos c_42])) _ _ hP hD hS ls (lv_sub hl [1, 2, 3, 4, 5, 6, 0] rfl)
          · skip
            refine lv_iconst (v := (-1)) hx hb dX12_addDigits_45 (by decide) ?_
            refine lv_goto (tgt := 50) hx hb dX12_addDigits_46 (by decide) ?_
            exact J_50 (-1) (by (try simp only [if_pos c_33, if_neg c_42])) _ _ hP hD hS ls (lv_sub hl [1, 2, 3, 4, 5, 6, 0] rfl)
        · skip
          refine lv_iconst (v := 1) hx hb dX12_addDigits_36 (by decide) ?_
          refine lv_goto (tgt := 50) hx hb dX12_addDigits_37 (by decide) ?_
          exact J_50 1 (by (try simp only [if_neg c_33])) _ _ hP hD hS ls (lv_sub hl [1, 2, 3, 4, 5, 6, 0] rfl)
  exact lp_6 (msU 80 0 + 1) (v_mmF, 0, 0) (Nat.lt_succ_self _) (by show (0 : Int32) ≤ 0; decide) eg_6.symm _ _ hP hD hS ls (lv_sub hl [2, 3, 4, 5, 1, 0] rfl)
theorem hdX12_addDigits : yX12_addDigits.cls = RX12 ∧ yX12_addDigits.cls ≠ "java/lang/invoke/MethodHandle" ∧ yX12_addDigits.cls ≠ "java/lang/invoke/VarHandle" ∧ (parseMethodDescriptor yX12_addDigits.desc).map (fun d => d.parameters.length) = some 3 := by decide +kernel
noncomputable def LX12_takeDecimal_3 (x2 : Int32) : Nat → ((Nat → Int32) × (Nat → Int32) × Int32) → ((Nat → Int32) × (Nat → Int32) × Int32)
  | 0, w_3 => w_3
  | n9 + 1, w_3 =>
    if 80 ≤ w_3.2.2 then ((w_3.1, w_3.2.1, w_3.2.2)) else (let m_33 : ((Nat → Int32) × (Nat → Int32)) := (if x2 = 0 then (let f_32 := upd w_3.2.1 (w_3.2.2 : Int32).toNatClampNeg (0); (w_3.1, f_32)) else (let f_21 := upd w_3.1 (w_3.2.2 : Int32).toNatClampNeg (0); (f_21, w_3.2.1))); let x_33 := w_3.2.2 + 1; LX12_takeDecimal_3 x2 n9 (m_33.1, m_33.2, x_33))
noncomputable def LX12_takeDecimal_78 (x0 : Int32) (x1 : Int32) (x2 : Int32) (v_mF : (Nat → Int32)) : Nat → (Int32 × (Nat → Int32) × (Nat → Int32) × Int32) → (Int32 × (Nat → Int32) × (Nat → Int32) × Int32)
  | 0, w_78 => w_78
  | n9 + 1, w_78 =>
    if ((2 * x1) - 1) ≤ w_78.2.2.2 then ((w_78.1, w_78.2.1, w_78.2.2.1, w_78.2.2.2)) else (let x_105 := (v_mF ((((x0 + x1) - 1) - ((w_78.2.2.2 + 1) / 2)) : Int32).toNatClampNeg); let m_126 : Int32 := (if (w_78.2.2.2 - w_78.2.2.2 / 2 * 2) = 0 then ((x_105 >>> (4 &&& 31))) else ((x_105 &&& 15))); let m_141 : Int32 := (if m_126 ≤ 9 then (w_78.1) else (let u_138 := fX12_meet 7 w_78.1; u_138)); let m_166 : ((Nat → Int32) × (Nat → Int32)) := (if x2 = 0 then (let f_165 := upd w_78.2.2.1 (w_78.2.2.2 : Int32).toNatClampNeg (m_126); (w_78.2.1, f_165)) else (let f_153 := upd w_78.2.1 (w_78.2.2.2 : Int32).toNatClampNeg (m_126); (f_153, w_78.2.2.1))); let x_166 := w_78.2.2.2 + 1; LX12_takeDecimal_78 x0 x1 x2 v_mF n9 (m_141, m_166.1, m_166.2, x_166))
noncomputable def fX12_takeDecimal (x0 : Int32) (x1 : Int32) (x2 : Int32) (v_wrong : Int32) (v_oneB : Int32) (v_twoB : Int32) (v_mF : (Nat → Int32)) (v_oneF : (Nat → Int32)) (v_twoF : (Nat → Int32)) : (Int32 × Int32 × Int32 × (Nat → Int32) × (Nat → Int32)) :=
  let g_3 := LX12_takeDecimal_3 x2 (msU 80 0 + 1) (v_oneF, v_twoF, 0)
  if v_wrong ≤ 0 then (let x_60 := ((v_mF (((x0 + x1) - 1) : Int32).toNatClampNeg) &&& 15); let m_75 : Int32 := (if 10 ≤ x_60 then (v_wrong) else (let u_72 := fX12_meet 7 v_wrong; u_72)); let g_78 := LX12_takeDecimal_78 x0 x1 x2 v_mF (msU ((2 * x1) - 1) 0 + 1) (m_75, g_3.1, g_3.2.1, 0); if x2 = 0 then (let m_222 : Int32 := (if x_60 = 11 then (1) else (if x_60 = 13 then (1) else (0))); (g_78.1, v_oneB, m_222, g_78.2.1, g_78.2.2.1)) else (let m_196 : Int32 := (if x_60 = 11 then (1) else (if x_60 = 13 then (1) else (0))); (g_78.1, m_196, v_twoB, g_78.2.1, g_78.2.2.1))) else ((v_wrong, v_oneB, v_twoB, g_3.1, g_3.2.1))
abbrev wX12_takeDecimal (cI cB : ClassId) (a_mo a_mem a_mks a_mr a_cnt a_wd a_one a_two a_mmade a_mrest a_old : Nat) (v_thrown : Int32) (v_mask : Int32) (v_key : Int32) (v_wait : Int32) (v_problem : Int32) (v_code : Int32) (v_length : Int32) (v_cond : Int32) (v_masks : Int32) (v_addr : Int32) (v_mwanted : Int32) (v_wrong : Int32) (v_after : Int32) (v_calls : Int32) (v_oneB : Int32) (v_twoB : Int32) (v_mF : (Nat → Int32)) (v_oneF : (Nat → Int32)) (v_twoF : (Nat → Int32)) : va_W := [(a_mo, .inr (12, [.int v_thrown, .ref a_mem, .ref a_mks, .ref a_mr, .int v_mask, .int v_key, .int v_wait, .int v_problem, .int v_code, .int v_length, .int v_cond, .int v_masks, .int v_addr, .int v_mwanted, .ref a_cnt, .ref a_wd, .int v_wrong, .int v_after, .int v_calls, .ref a_one, .int v_oneB, .ref a_two, .int v_twoB, .ref a_mmade, .ref a_mrest, .ref a_old])), (a_mem, .inl (cI, 8192, .inl v_mF)), (a_one, .inl (cI, 80, .inl v_oneF)), (a_two, .inl (cI, 80, .inl v_twoF))]
abbrev rmX12_takeDecimal : Room := { frames := 1, cells := 0, slots := 0, locals := 21 }
abbrev qX12_takeDecimal (D : va_G) (cI cB : ClassId) (a_mo a_mem a_mks a_mr a_cnt a_wd a_one a_two a_mmade a_mrest a_old : Nat) (v_thrown : Int32) (v_mask : Int32) (v_key : Int32) (v_wait : Int32) (v_problem : Int32) (v_code : Int32) (v_length : Int32) (v_cond : Int32) (v_masks : Int32) (v_addr : Int32) (v_mwanted : Int32) (v_wrong : Int32) (v_after : Int32) (v_calls : Int32) (v_oneB : Int32) (v_twoB : Int32) (v_mF : (Nat → Int32)) (v_oneF : (Nat → Int32)) (v_twoF : (Nat → Int32)) (x0 : Int32) (x1 : Int32) (x2 : Int32) : (Nat → Prop) → Array Value → State → Outcome → State → Prop := fun A9 => va_Qv (fun (u9 : (Int32 × Int32 × Int32 × (Nat → Int32) × (Nat → Int32))) => u9 = fX12_takeDecimal x0 x1 x2 v_wrong v_oneB v_twoB v_mF v_oneF v_twoF) (fun u9 t9 => atW D (TYS cI cB) A9 (wX12_takeDecimal cI cB a_mo a_mem a_mks a_mr a_cnt a_wd a_one a_two a_mmade a_mrest a_old v_thrown v_mask v_key v_wait v_problem v_code v_length v_cond v_masks v_addr v_mwanted u9.1 v_after v_calls u9.2.1 u9.2.2.1 v_mF u9.2.2.2.1 u9.2.2.2.2) t9) A9
set_option maxHeartbeats 4000000 in
set_option maxRecDepth 100000 in
theorem kX12_takeDecimal (l : Launch) (D : va_G) (cI cB : ClassId) (a_mo a_mem a_mks a_mr a_cnt a_wd a_one a_two a_mmade a_mrest a_old : Nat) (sz : Nat) (v_thrown : Int32) (v_mask : Int32) (v_key : Int32) (v_wait : Int32) (v_problem : Int32) (v_code : Int32) (v_length : Int32) (v_cond : Int32) (v_masks : Int32) (v_addr : Int32) (v_mwanted : Int32) (v_wrong : Int32) (v_after : Int32) (v_calls : Int32) (v_oneB : Int32) (v_twoB : Int32) (v_mF : (Nat → Int32)) (v_oneF : (Nat → Int32)) (v_twoF : (Nat → Int32)) (x0 : Int32) (x1 : Int32) (x2 : Int32) (hn : 1 ≤ x1.toInt ∧ x1.toInt ≤ 16) (ha : v_wrong ≤ 0 → inM x0 x1) : MetW l yX12_takeDecimal (WK yX12_takeDecimal cX12_takeDecimal 8 none) rmX12_takeDecimal D (TYS cI cB) (wX12_takeDecimal cI cB a_mo a_mem a_mks a_mr a_cnt a_wd a_one a_two a_mmade a_mrest a_old v_thrown v_mask v_key v_wait v_problem v_code v_length v_cond v_masks v_addr v_mwanted v_wrong v_after v_calls v_oneB v_twoB v_mF v_oneF v_twoF) sz [.ref a_mo, .int x0, .int x1, .int x2] (qX12_takeDecimal D cI cB a_mo a_mem a_mks a_mr a_cnt a_wd a_one a_two a_mmade a_mrest a_old v_thrown v_mask v_key v_wait v_problem v_code v_length v_cond v_masks v_addr v_mwanted v_wrong v_after v_calls v_oneB v_twoB v_mF v_oneF v_twoF x0 x1 x2) 0 0 := by
  refine met_std (by decide) rfl (Nat.le_of_ble_eq_true rfl) ?_
  intro p e s m below meth c A ls H hx hb hr hml hown hts hlocks hA hP hK hD hS hNW hl
  have hl : lv_has ls 8 [(0, .ref a_mo), (1, .int x0), (2, .int x1), (3, .int x2)] := hl
  have q_0 := hts _ (List.mem_cons_of_mem _ wd_783)
  have q_1 := hts _ (List.mem_cons_of_mem _ wd_782)
  have q_2 := hts _ (List.mem_cons_of_mem _ wd_836)
  have q_3 := hts _ (List.mem_cons_of_mem _ wd_777)
  have q_4 := hts _ (List.mem_cons_of_mem _ wd_889)
  have q_5 := hts _ (List.mem_cons_of_mem _ wd_888)
  refine lv_iconst (v := 0) hx hb dX12_takeDecimal_0 (by decide) ?_
  refine lv_istore (lv' := [(4, .int 0), (0, .ref a_mo), (1, .int x0), (2, .int x1), (3, .int x2)]) hx hb dX12_takeDecimal_1 hl (by decide) rfl (fun ls hl => ?_)
  obtain ⟨g_3, eg_3⟩ : ∃ z : ((Nat → Int32) × (Nat → Int32) × Int32), z = LX12_takeDecimal_3 x2 (msU 80 0 + 1) (v_oneF, v_twoF, 0) := ⟨_, rfl⟩
  have K_3_0 : ∀ (H : Heap) (locs : List Loc), va_P D vwCl (wX12_takeDecimal cI cB a_mo a_mem a_mks a_mr a_cnt a_wd a_one a_two a_mmade a_mrest a_old v_thrown v_mask v_key v_wait v_problem v_code v_length v_cond v_masks v_addr v_mwanted v_wrong v_after v_calls v_oneB v_twoB v_mF g_3.1 g_3.2.1) H → va_D A (wX12_takeDecimal cI cB a_mo a_mem a_mks a_mr a_cnt a_wd a_one a_two a_mmade a_mrest a_old v_thrown v_mask v_key v_wait v_problem v_code v_length v_cond v_masks v_addr v_mwanted v_wrong v_after v_calls v_oneB v_twoB v_mF g_3.1 g_3.2.1) → va_S A s.heap H locs → ∀ (ls : Array Slot), lv_has ls 8 [(0, .ref a_mo), (1, .int x0), (2, .int x1), (3, .int x2), (4, .int g_3.2.2)] → W p l e rmX12_takeDecimal s m ([.ref a_mo, .int x0, .int x1, .int x2] : List Value).toArray below meth c H locs 0 0 (MQ below (qX12_takeDecimal D cI cB a_mo a_mem a_mks a_mr a_cnt a_wd a_one a_two a_mmade a_mrest a_old v_thrown v_mask v_key v_wait v_problem v_code v_length v_cond v_masks v_addr v_mwanted v_wrong v_after v_calls v_oneB v_twoB v_mF v_oneF v_twoF x0 x1 x2 A) ([.ref a_mo, .int x0, .int x1, .int x2] : List Value).toArray s 0 0 A) (F0 m 39 ls []) := by
    intro H locs hP hD hS ls hl
    refine lv_aload_n hx hb dX12_takeDecimal_39 rfl (lv_at hl 0 rfl) ?_
    refine va_get (D := D) (ci := 12) (v := .int v_wrong) (C := RX12) (T := TX12) (N := 26) hx hb hts in_X12 hown hK hP 0 rfl rfl 16 (by decide) q_2 (fun _ h9 => h9) rfl dX12_takeDecimal_40 ?_
    refine lv_if_le (tgt := 47) hx hb dX12_takeDecimal_43 (by decide) (fun c_43 => ?_) (fun c_43 => ?_)
    · skip
      refine lv_aload_n hx hb dX12_takeDecimal_47 rfl (lv_at hl 0 rfl) ?_
      refine va_get (D := D) (ci := 12) (v := .ref a_mem) (C := RX12) (T := TX12) (N := 26) hx hb hts in_X12 hown hK hP 0 rfl rfl 1 (by decide) q_3 (fun _ h9 => h9) rfl dX12_takeDecimal_48 ?_
      refine lv_iload_n hx hb dX12_takeDecimal_51 rfl (lv_at hl 1 rfl) ?_
      refine lv_iload_n hx hb dX12_takeDecimal_52 rfl (lv_at hl 2 rfl) ?_
      refine lv_iadd hx hb dX12_takeDecimal_53 ?_
      refine lv_iconst (v := 1) hx hb dX12_takeDecimal_54 (by decide) ?_
      refine lv_isub hx hb dX12_takeDecimal_55 ?_
      refine va_iald hx hb hK hP 1 0 rfl rfl (lst_in hn.1 (ha c_43)) dX12_takeDecimal_56 ?_
      refine lv_bipush (v := 15) hx hb dX12_takeDecimal_57 (by decide) ?_
      refine lv_iand hx hb dX12_takeDecimal_59 ?_
      refine lv_topi (fun x_60 ex_60 => ?_)
      refine lv_istore (lv' := [(4, .int x_60), (0, .ref a_mo), (1, .int x0), (2, .int x1), (3, .int x2)]) hx hb dX12_takeDecimal_60 hl (by decide) rfl (fun ls hl => ?_)
      refine lv_iload hx hb dX12_takeDecimal_62 (lv_at hl 0 rfl) ?_
      refine lv_bipush (v := 10) hx hb dX12_takeDecimal_64 (by decide) ?_
      have J_75 : ∀ (m_75 : Int32), m_75 = (if 10 ≤ x_60 then (v_wrong) else (let u_72 := fX12_meet 7 v_wrong; u_72)) → ∀ (H : Heap) (locs : List Loc), va_P D vwCl (wX12_takeDecimal cI cB a_mo a_mem a_mks a_mr a_cnt a_wd a_one a_two a_mmade a_mrest a_old v_thrown v_mask v_key v_wait v_problem v_code v_length v_cond v_masks v_addr v_mwanted m_75 v_after v_calls v_oneB v_twoB v_mF g_3.1 g_3.2.1) H → va_D A (wX12_takeDecimal cI cB a_mo a_mem a_mks a_mr a_cnt a_wd a_one a_two a_mmade a_mrest a_old v_thrown v_mask v_key v_wait v_problem v_code v_length v_cond v_masks v_addr v_mwanted m_75 v_after v_calls v_oneB v_twoB v_mF g_3.1 g_3.2.1) → va_S A s.heap H locs → ∀ (ls : Array Slot), lv_has ls 8 [(0, .ref a_mo), (1, .int x0), (2, .int x1), (3, .int x2), (4, .int x_60)] → W p l e rmX12_takeDecimal s m ([.ref a_mo, .int x0, .int x1, .int x2] : List Value).toArray below meth c H locs 0 0 (MQ below (qX12_takeDecimal D cI cB a_mo a_mem a_mks a_mr a_cnt a_wd a_one a_two a_mmade a_mrest a_old v_thrown v_mask v_key v_wait v_problem v_code v_length v_cond v_masks v_addr v_mwanted v_wrong v_after v_calls v_oneB v_twoB v_mF v_oneF v_twoF x0 x1 x2 A) ([.ref a_mo, .int x0, .int x1, .int x2] : List Value).toArray s 0 0 A) (F0 m 75 ls []) := by
        intro m_75 em_75 H locs hP hD hS ls hl
        try dsimp only at em_75
        refine lv_iconst (v := 0) hx hb dX12_takeDecimal_75 (by decide) ?_
        refine lv_istore (lv' := [(5, .int 0), (0, .ref a_mo), (1, .int x0), (2, .int x1), (3, .int x2), (4, .int x_60)]) hx hb dX12_takeDecimal_76 hl (by decide) rfl (fun ls hl => ?_)
        obtain ⟨g_78, eg_78⟩ : ∃ z : (Int32 × (Nat → Int32) × (Nat → Int32) × Int32), z = LX12_takeDecimal_78 x0 x1 x2 v_mF (msU ((2 * x1) - 1) 0 + 1) (m_75, g_3.1, g_3.2.1, 0) := ⟨_, rfl⟩
        have K_78_0 : ∀ (H : Heap) (locs : List Loc), va_P D vwCl (wX12_takeDecimal cI cB a_mo a_mem a_mks a_mr a_cnt a_wd a_one a_two a_mmade a_mrest a_old v_thrown v_mask v_key v_wait v_problem v_code v_length v_cond v_masks v_addr v_mwanted g_78.1 v_after v_calls v_oneB v_twoB v_mF g_78.2.1 g_78.2.2.1) H → va_D A (wX12_takeDecimal cI cB a_mo a_mem a_mks a_mr a_cnt a_wd a_one a_two a_mmade a_mrest a_old v_thrown v_mask v_key v_wait v_problem v_code v_length v_cond v_masks v_addr v_mwanted g_78.1 v_after v_calls v_oneB v_twoB v_mF g_78.2.1 g_78.2.2.1) → va_S A s.heap H locs → ∀ (ls : Array Slot), lv_has ls 8 [(0, .ref a_mo), (1, .int x0), (2, .int x1), (3, .int x2), (4, .int x_60), (5, .int g_78.2.2.2)] → W p l e rmX12_takeDecimal s m ([.ref a_mo, .int x0, .int x1, .int x2] : List Value).toArray below meth c H locs 0 0 (MQ below (qX12_takeDecimal D cI cB a_mo a_mem a_mks a_mr a_cnt a_wd a_one a_two a_mmade a_mrest a_old v_thrown v_mask v_key v_wait v_problem v_code v_length v_cond v_masks v_addr v_mwanted v_wrong v_after v_calls v_oneB v_twoB v_mF v_oneF v_twoF x0 x1 x2 A) ([.ref a_mo, .int x0, .int x1, .int x2] : List Value).toArray s 0 0 A) (F0 m 172 ls []) := by
          intro H locs hP hD hS ls hl
          refine lv_iload_n hx hb dX12_takeDecimal_172 rfl (lv_at hl 3 rfl) ?_
          refine lv_if_eq (tgt := 202) hx hb dX12_takeDecimal_173 (by decide) (fun c_173 => ?_) (fun c_173 => ?_)
          · skip
            refine lv_aload_n hx hb dX12_takeDecimal_202 rfl (lv_at hl 0 rfl) ?_
            refine lv_iload hx hb dX12_takeDecimal_203 (lv_at hl 4 rfl) ?_
            refine lv_bipush (v := 11) hx hb dX12_takeDecimal_205 (by decide) ?_
            have J_222 : ∀ (m_222 : Int32), m_222 = (if x_60 = 11 then (1) else (if x_60 = 13 then (1) else (0))) → ∀ (H : Heap) (locs : List Loc), va_P D vwCl (wX12_takeDecimal cI cB a_mo a_mem a_mks a_mr a_cnt a_wd a_one a_two a_mmade a_mrest a_old v_thrown v_mask v_key v_wait v_problem v_code v_length v_cond v_masks v_addr v_mwanted g_78.1 v_after v_calls v_oneB v_twoB v_mF g_78.2.1 g_78.2.2.1) H → va_D A (wX12_takeDecimal cI cB a_mo a_mem a_mks a_mr a_cnt a_wd a_one a_two a_mmade a_mrest a_old v_thrown v_mask v_key v_wait v_problem v_code v_length v_cond v_masks v_addr v_mwanted g_78.1 v_after v_calls v_oneB v_twoB v_mF g_78.2.1 g_78.2.2.1) → va_S A s.heap H locs → ∀ (ls : Array Slot), lv_has ls 8 [(0, .ref a_mo), (1, .int x0), (2, .int x1), (3, .int x2), (4, .int x_60), (5, .int g_78.2.2.2)] → W p l e rmX12_takeDecimal s m ([.ref a_mo, .int x0, .int x1, .int x2] : List Value).toArray below meth c H locs 0 0 (MQ below (qX12_takeDecimal D cI cB a_mo a_mem a_mks a_mr a_cnt a_wd a_one a_two a_mmade a_mrest a_old v_thrown v_mask v_key v_wait v_problem v_code v_length v_cond v_masks v_addr v_mwanted v_wrong v_after v_calls v_oneB v_twoB v_mF v_oneF v_twoF x0 x1 x2 A) ([.ref a_mo, .int x0, .int x1, .int x2] : List Value).toArray s 0 0 A) (F0 m 222 ls [.int m_222, .ref a_mo]) := by
              intro m_222 em_222 H locs hP hD hS ls hl
              try dsimp only at em_222
              have zm_222_0 : m_222 = 0 ∨ m_222 = 1 := by rw [em_222]; (try dsimp only); (repeat' split) <;> first | exact Or.inl rfl | exact Or.inr rfl
              refine va_put (D := D) (ci := 12) (v := .int m_222) (ty := .boolean) (C := RX12) (T := TX12) (N := 26) hx hb hts in_X12 tyX12 tyX12_ok nmX12 hown hK hP hD hS 0 rfl rfl 22 (by decide) q_4 (fun _ h9 => h9) rfl (by decide +kernel) (zb_narrow (by with_reducible assumption)) (zb_fits (by with_reducible assumption)) (Nat.le_of_ble_eq_true rfl) dX12_takeDecimal_222 (fun H locs hP hD hS => ?_)
              have hP : va_P D vwCl (wX12_takeDecimal cI cB a_mo a_mem a_mks a_mr a_cnt a_wd a_one a_two a_mmade a_mrest a_old v_thrown v_mask v_key v_wait v_problem v_code v_length v_cond v_masks v_addr v_mwanted g_78.1 v_after v_calls v_oneB m_222 v_mF g_78.2.1 g_78.2.2.1) H := hP
              have hD : va_D A (wX12_takeDecimal cI cB a_mo a_mem a_mks a_mr a_cnt a_wd a_one a_two a_mmade a_mrest a_old v_thrown v_mask v_key v_wait v_problem v_code v_length v_cond v_masks v_addr v_mwanted g_78.1 v_after v_calls v_oneB m_222 v_mF g_78.2.1 g_78.2.2.1) := hD
              have hf9 : (g_78.1, v_oneB, m_222, g_78.2.1, g_78.2.2.1) = fX12_takeDecimal x0 x1 x2 v_wrong v_oneB v_twoB v_mF v_oneF v_twoF := by subst ex_60; simp only [fX12_takeDecimal, ← eg_3, ← em_75, ← eg_78, ← em_222]; (try simp only [if_pos c_43, if_pos c_173])
              exact W.vret hx hb hr (fun t9 ht9 hW9 => ⟨⟨(g_78.1, v_oneB, m_222, g_78.2.1, g_78.2.2.1), rfl, hf9, ⟨by rw [ht9]; exact hP, va_K.moved hW9.alike hK, hD⟩⟩, hS.F ht9⟩) hS.2.2 dX12_takeDecimal_225
            refine lv_icmp_eq (tgt := 217) hx hb dX12_takeDecimal_207 (by decide) (fun c_207 => ?_) (fun c_207 => ?_)
            · skip
              refine lv_iconst (v := 1) hx hb dX12_takeDecimal_217 (by decide) ?_
              refine lv_goto (tgt := 222) hx hb dX12_takeDecimal_218 (by decide) ?_
              exact J_222 1 (by (try simp only [if_pos c_207])) _ _ hP hD hS ls (lv_sub hl [0, 1, 2, 3, 4, 5] rfl)
            · skip
              refine lv_iload hx hb dX12_takeDecimal_210 (lv_at hl 4 rfl) ?_
              refine lv_bipush (v := 13) hx hb dX12_takeDecimal_212 (by decide) ?_
              refine lv_icmp_ne (tgt := 221) hx hb dX12_takeDecimal_214 (by decide) (fun c_214 => ?_) (fun c_214 => ?_)
              · skip
                refine lv_iconst (v := 0) hx hb dX12_takeDecimal_221 (by decide) ?_
                exact J_222 0 (by (try simp only [if_neg c_207, if_neg c_214])) _ _ hP hD hS ls (lv_sub hl [0, 1, 2, 3, 4, 5] rfl)
              · skip
                refine lv_iconst (v := 1) hx hb dX12_takeDecimal_217 (by decide) ?_
                refine lv_goto (tgt := 222) hx hb dX12_takeDecimal_218 (by decide) ?_
                exact J_222 1 (by (try simp only [if_neg c_207, if_pos c_214])) _ _ hP hD hS ls (lv_sub hl [0, 1, 2, 3, 4, 5] rfl)
          · skip
            refine lv_aload_n hx hb dX12_takeDecimal_176 rfl (lv_at hl 0 rfl) ?_
            refine lv_iload hx hb dX12_takeDecimal_177 (lv_at hl 4 rfl) ?_
            refine lv_bipush (v := 11) hx hb dX12_takeDecimal_179 (by decide) ?_
            have J_196 : ∀ (m_196 : Int32), m_196 = (if x_60 = 11 then (1) else (if x_60 = 13 then (1) else (0))) → ∀ (H : Heap) (locs : List Loc), va_P D vwCl (wX12_takeDecimal cI cB a_mo a_mem a_mks a_mr a_cnt a_wd a_one a_two a_mmade a_mrest a_old v_thrown v_mask v_key v_wait v_problem v_code v_length v_cond v_masks v_addr v_mwanted g_78.1 v_after v_calls v_oneB v_twoB v_mF g_78.2.1 g_78.2.2.1) H → va_D A (wX12_takeDecimal cI cB a_mo a_mem a_mks a_mr a_cnt a_wd a_one a_two a_mmade a_mrest a_old v_thrown v_mask v_key v_wait v_problem v_code v_length v_cond v_masks v_addr v_mwanted g_78.1 v_after v_calls v_oneB v_twoB v_mF g_78.2.1 g_78.2.2.1) → va_S A s.heap H locs → ∀ (ls : Array Slot), lv_has ls 8 [(0, .ref a_mo), (1, .int x0), (2, .int x1), (3, .int x2), (4, .int x_60), (5, .int g_78.2.2.2)] → W p l e rmX12_takeDecimal s m ([.ref a_mo, .int x0, .int x1, .int x2] : List Value).toArray below meth c H locs 0 0 (MQ below (qX12_takeDecimal D cI cB a_mo a_mem a_mks a_mr a_cnt a_wd a_one a_two a_mmade a_mrest a_old v_thrown v_mask v_key v_wait v_problem v_code v_length v_cond v_masks v_addr v_mwanted v_wrong v_after v_calls v_oneB v_twoB v_mF v_oneF v_twoF x0 x1 x2 A) ([.ref a_mo, .int x0, .int x1, .int x2] : List Value).toArray s 0 0 A) (F0 m 196 ls [.int m_196, .ref a_mo]) := by
              intro m_196 em_196 H locs hP hD hS ls hl
              try dsimp only at em_196
              have zm_196_0 : m_196 = 0 ∨ m_196 = 1 := by rw [em_196]; (try dsimp only); (repeat' split) <;> first | exact Or.inl rfl | exact Or.inr rfl
              refine va_put (D := D) (ci := 12) (v := .int m_196) (ty := .boolean) (C := RX12) (T := TX12) (N := 26) hx hb hts in_X12 tyX12 tyX12_ok nmX12 hown hK hP hD hS 0 rfl rfl 20 (by decide) q_5 (fun _ h9 => h9) rfl (by decide +kernel) (zb_narrow (by with_reducible assumption)) (zb_fits (by with_reducible assumption)) (Nat.le_of_ble_eq_true rfl) dX12_takeDecimal_196 (fun H locs hP hD hS => ?_)
              have hP : va_P D vwCl (wX12_takeDecimal cI cB a_mo a_mem a_mks a_mr a_cnt a_wd a_one a_two a_mmade a_mrest a_old v_thrown v_mask v_key v_wait v_problem v_code v_length v_cond v_masks v_addr v_mwanted g_78.1 v_after v_calls m_196 v_twoB v_mF g_78.2.1 g_78.2.2.1) H := hP
              have hD : va_D A (wX12_takeDecimal cI cB a_mo a_mem a_mks a_mr a_cnt a_wd a_one a_two a_mmade a_mrest a_old v_thrown v_mask v_key v_wait v_problem v_code v_length v_cond v_masks v_addr v_mwanted g_78.1 v_after v_calls m_196 v_twoB v_mF g_78.2.1 g_78.2.2.1) := hD
              refine lv_goto (tgt := 225) hx hb dX12_takeDecimal_199 (by decide) ?_
              have hf9 : (g_78.1, m_196, v_twoB, g_78.2.1, g_78.2.2.1) = fX12_takeDecimal x0 x1 x2 v_wrong v_oneB v_twoB v_mF v_oneF v_twoF := by subst ex_60; simp only [fX12_takeDecimal, ← eg_3, ← em_75, ← eg_78, ← em_196]; (try simp only [if_pos c_43, if_neg c_173])
              exact W.vret hx hb hr (fun t9 ht9 hW9 => ⟨⟨(g_78.1, m_196, v_twoB, g_78.2.1, g_78.2.2.1), rfl, hf9, ⟨by rw [ht9]; exact hP, va_K.moved hW9.alike hK, hD⟩⟩, hS.F ht9⟩) hS.2.2 dX12_takeDecimal_225
            refine lv_icmp_eq (tgt := 191) hx hb dX12_takeDecimal_181 (by decide) (fun c_181 => ?_) (fun c_181 => ?_)
            · skip
              refine lv_iconst (v := 1) hx hb dX12_takeDecimal_191 (by decide) ?_
              refine lv_goto (tgt := 196) hx hb dX12_takeDecimal_192 (by decide) ?_
              exact J_196 1 (by (try simp only [if_pos c_181])) _ _ hP hD hS ls (lv_sub hl [0, 1, 2, 3, 4, 5] rfl)
            · skip
              refine lv_iload hx hb dX12_takeDecimal_184 (lv_at hl 4 rfl) ?_
              refine lv_bipush (v := 13) hx hb dX12_takeDecimal_186 (by decide) ?_
              refine lv_icmp_ne (tgt := 195) hx hb dX12_takeDecimal_188 (by decide) (fun c_188 => ?_) (fun c_188 => ?_)
              · skip
                refine lv_iconst (v := 0) hx hb dX12_takeDecimal_195 (by decide) ?_
                exact J_196 0 (by (try simp only [if_neg c_181, if_neg c_188])) _ _ hP hD hS ls (lv_sub hl [0, 1, 2, 3, 4, 5] rfl)
              · skip
                refine lv_iconst (v := 1) hx hb dX12_takeDecimal_191 (by decide) ?_
                refine lv_goto (tgt := 196) hx hb dX12_takeDecimal_192 (by decide) ?_
                exact J_196 1 (by (try simp only [if_neg c_181, if_pos c_188])) _ _ hP hD hS ls (lv_sub hl [0, 1, 2, 3, 4, 5] rfl)
        have lp_78 : ∀ (n9 : Nat) (w_78 : (Int32 × (Nat → Int32) × (Nat → Int32) × Int32)), msU ((2 * x1) - 1) w_78.2.2.2 < n9 → 0 ≤ w_78.2.2.2 → LX12_takeDecimal_78 x0 x1 x2 v_mF n9 w_78 = g_78 → ∀ (H : Heap) (locs : List Loc), va_P D vwCl (wX12_takeDecimal cI cB a_mo a_mem a_mks a_mr a_cnt a_wd a_one a_two a_mmade a_mrest a_old v_thrown v_mask v_key v_wait v_problem v_code v_length v_cond v_masks v_addr v_mwanted w_78.1 v_after v_calls v_oneB v_twoB v_mF w_78.2.1 w_78.2.2.1) H → va_D A (wX12_takeDecimal cI cB a_mo a_mem a_mks a_mr a_cnt a_wd a_one a_two a_mmade a_mrest a_old v_thrown v_mask v_key v_wait v_problem v_code v_length v_cond v_masks v_addr v_mwanted w_78.1 v_after v_calls v_oneB v_twoB v_mF w_78.2.1 w_78.2.2.1) → va_S A s.heap H locs → ∀ (ls : Array Slot), lv_has ls 8 [(0, .ref a_mo), (1, .int x0), (2, .int x1), (3, .int x2), (4, .int x_60), (5, .int w_78.2.2.2)] → W p l e rmX12_takeDecimal s m ([.ref a_mo, .int x0, .int x1, .int x2] : List Value).toArray below meth c H locs 0 0 (MQ below (qX12_takeDecimal D cI cB a_mo a_mem a_mks a_mr a_cnt a_wd a_one a_two a_mmade a_mrest a_old v_thrown v_mask v_key v_wait v_problem v_code v_length v_cond v_masks v_addr v_mwanted v_wrong v_after v_calls v_oneB v_twoB v_mF v_oneF v_twoF x0 x1 x2 A) ([.ref a_mo, .int x0, .int x1, .int x2] : List Value).toArray s 0 0 A) (F0 m 78 ls []) := by
          intro n9
          induction n9 with
          | zero => intro w_78 hm9; exact absurd hm9 (Nat.not_lt_zero _)
          | succ n9 ih =>
            intro w_78 hm9 hI9 hL9 H locs hP hD hS ls hl
            have hI_78 := hI9
            refine lv_iload hx hb dX12_takeDecimal_78 (lv_at hl 5 rfl) ?_
            refine lv_iconst (v := 2) hx hb dX12_takeDecimal_80 (by decide) ?_
            refine lv_iload_n hx hb dX12_takeDecimal_81 rfl (lv_at hl 2 rfl) ?_
            refine lv_imul hx hb dX12_takeDecimal_82 ?_
            refine lv_iconst (v := 1) hx hb dX12_takeDecimal_83 (by decide) ?_
            refine lv_isub hx hb dX12_takeDecimal_84 ?_
            refine lv_icmp_ge (tgt := 172) hx hb dX12_takeDecimal_85 (by decide) (fun c_85 => ?_) (fun c_85 => ?_)
            · skip
              have hg9 : (w_78.1, w_78.2.1, w_78.2.2.1, w_78.2.2.2) = g_78 := by rw [← hL9]; simp only [LX12_takeDecimal_78]; (try simp only [if_pos c_85])
              subst hg9
              exact K_78_0 _ _ hP hD hS ls (lv_sub hl [0, 1, 2, 3, 4, 5] rfl)
            · skip
              refine lv_aload_n hx hb dX12_takeDecimal_88 rfl (lv_at hl 0 rfl) ?_
              refine va_get (D := D) (ci := 12) (v := .ref a_mem) (C := RX12) (T := TX12) (N := 26) hx hb hts in_X12 hown hK hP 0 rfl rfl 1 (by decide) q_3 (fun _ h9 => h9) rfl dX12_takeDecimal_89 ?_
              refine lv_iload_n hx hb dX12_takeDecimal_92 rfl (lv_at hl 1 rfl) ?_
              refine lv_iload_n hx hb dX12_takeDecimal_93 rfl (lv_at hl 2 rfl) ?_
              refine lv_iadd hx hb dX12_takeDecimal_94 ?_
              refine lv_iconst (v := 1) hx hb dX12_takeDecimal_95 (by decide) ?_
              refine lv_isub hx hb dX12_takeDecimal_96 ?_
              refine lv_iload hx hb dX12_takeDecimal_97 (lv_at hl 5 rfl) ?_
              refine lv_iconst (v := 1) hx hb dX12_takeDecimal_99 (by decide) ?_
              refine lv_iadd hx hb dX12_takeDecimal_100 ?_
              refine lv_iconst (v := 2) hx hb dX12_takeDecimal_101 (by decide) ?_
              refine lv_idiv hx hb dX12_takeDecimal_102 (by decide) ?_
              refine lv_isub hx hb dX12_takeDecimal_103 ?_
              refine va_iald hx hb hK hP 1 0 rfl rfl (td_in hn (ha c_43) hI9 c_85) dX12_takeDecimal_104 ?_
              refine lv_topi (fun x_105 ex_105 => ?_)
              refine lv_istore (lv' := [(6, .int x_105), (0, .ref a_mo), (1, .int x0), (2, .int x1), (3, .int x2), (4, .int x_60), (5, .int w_78.2.2.2)]) hx hb dX12_takeDecimal_105 hl (by decide) rfl (fun ls hl => ?_)
              refine lv_iload hx hb dX12_takeDecimal_107 (lv_at hl 6 rfl) ?_
              refine lv_iconst (v := 2) hx hb dX12_takeDecimal_109 (by decide) ?_
              refine lv_irem hx hb dX12_takeDecimal_110 (by decide) ?_
              have J_126 : ∀ (m_126 : Int32), m_126 = (if (w_78.2.2.2 - w_78.2.2.2 / 2 * 2) = 0 then ((x_105 >>> (4 &&& 31))) else ((x_105 &&& 15))) → ∀ (H : Heap) (locs : List Loc), va_P D vwCl (wX12_takeDecimal cI cB a_mo a_mem a_mks a_mr a_cnt a_wd a_one a_two a_mmade a_mrest a_old v_thrown v_mask v_key v_wait v_problem v_code v_length v_cond v_masks v_addr v_mwanted w_78.1 v_after v_calls v_oneB v_twoB v_mF w_78.2.1 w_78.2.2.1) H → va_D A (wX12_takeDecimal cI cB a_mo a_mem a_mks a_mr a_cnt a_wd a_one a_two a_mmade a_mrest a_old v_thrown v_mask v_key v_wait v_problem v_code v_length v_cond v_masks v_addr v_mwanted w_78.1 v_after v_calls v_oneB v_twoB v_mF w_78.2.1 w_78.2.2.1) → va_S A s.heap H locs → ∀ (ls : Array Slot), lv_has ls 8 [(0, .ref a_mo), (1, .int x0), (2, .int x1), (3, .int x2), (4, .int x_60), (5, .int w_78.2.2.2), (6, .int x_105)] → W p l e rmX12_takeDecimal s m ([.ref a_mo, .int x0, .int x1, .int x2] : List Value).toArray below meth c H locs 0 0 (MQ below (qX12_takeDecimal D cI cB a_mo a_mem a_mks a_mr a_cnt a_wd a_one a_two a_mmade a_mrest a_old v_thrown v_mask v_key v_wait v_problem v_code v_length v_cond v_masks v_addr v_mwanted v_wrong v_after v_calls v_oneB v_twoB v_mF v_oneF v_twoF x0 x1 x2 A) ([.ref a_mo, .int x0, .int x1, .int x2] : List Value).toArray s 0 0 A) (F0 m 126 ls [.int m_126]) := by
                intro m_126 em_126 H locs hP hD hS ls hl
                try dsimp only at em_126
                refine lv_istore (lv' := [(7, .int m_126), (0, .ref a_mo), (1, .int x0), (2, .int x1), (3, .int x2), (4, .int x_60), (5, .int w_78.2.2.2), (6, .int x_105)]) hx hb dX12_takeDecimal_126 hl (by decide) rfl (fun ls hl => ?_)
                refine lv_iload hx hb dX12_takeDecimal_128 (lv_at hl 0 rfl) ?_
                refine lv_bipush (v := 9) hx hb dX12_takeDecimal_130 (by decide) ?_
                have J_141 : ∀ (m_141 : Int32), m_141 = (if m_126 ≤ 9 then (w_78.1) else (let u_138 := fX12_meet 7 w_78.1; u_138)) → ∀ (H : Heap) (locs : List Loc), va_P D vwCl (wX12_takeDecimal cI cB a_mo a_mem a_mks a_mr a_cnt a_wd a_one a_two a_mmade a_mrest a_old v_thrown v_mask v_key v_wait v_problem v_code v_length v_cond v_masks v_addr v_mwanted m_141 v_after v_calls v_oneB v_twoB v_mF w_78.2.1 w_78.2.2.1) H → va_D A (wX12_takeDecimal cI cB a_mo a_mem a_mks a_mr a_cnt a_wd a_one a_two a_mmade a_mrest a_old v_thrown v_mask v_key v_wait v_problem v_code v_length v_cond v_masks v_addr v_mwanted m_141 v_after v_calls v_oneB v_twoB v_mF w_78.2.1 w_78.2.2.1) → va_S A s.heap H locs → ∀ (ls : Array Slot), lv_has ls 8 [(0, .ref a_mo), (1, .int x0), (2, .int x1), (3, .int x2), (4, .int x_60), (5, .int w_78.2.2.2), (6, .int x_105), (7, .int m_126)] → W p l e rmX12_takeDecimal s m ([.ref a_mo, .int x0, .int x1, .int x2] : List Value).toArray below meth c H locs 0 0 (MQ below (qX12_takeDecimal D cI cB a_mo a_mem a_mks a_mr a_cnt a_wd a_one a_two a_mmade a_mrest a_old v_thrown v_mask v_key v_wait v_problem v_code v_length v_cond v_masks v_addr v_mwanted v_wrong v_after v_calls v_oneB v_twoB v_mF v_oneF v_twoF x0 x1 x2 A) ([.ref a_mo, .int x0, .int x1, .int x2] : List Value).toArray s 0 0 A) (F0 m 141 ls []) := by
                  intro m_141 em_141 H locs hP hD hS ls hl
                  try dsimp only at em_141
                  refine lv_iload_n hx hb dX12_takeDecimal_141 rfl (lv_at hl 3 rfl) ?_
                  have J_166 : ∀ (m_166 : ((Nat → Int32) × (Nat → Int32))), m_166 = (if x2 = 0 then (let f_165 := upd w_78.2.2.1 (w_78.2.2.2 : Int32).toNatClampNeg (m_126); (w_78.2.1, f_165)) else (let f_153 := upd w_78.2.1 (w_78.2.2.2 : Int32).toNatClampNeg (m_126); (f_153, w_78.2.2.1))) → ∀ (H : Heap) (locs : List Loc), va_P D vwCl (wX12_takeDecimal cI cB a_mo a_mem a_mks a_mr a_cnt a_wd a_one a_two a_mmade a_mrest a_old v_thrown v_mask v_key v_wait v_problem v_code v_length v_cond v_masks v_addr v_mwanted m_141 v_after v_calls v_oneB v_twoB v_mF m_166.1 m_166.2) H → va_D A (wX12_takeDecimal cI cB a_mo a_mem a_mks a_mr a_cnt a_wd a_one a_two a_mmade a_mrest a_old v_thrown v_mask v_key v_wait v_problem v_code v_length v_cond v_masks v_addr v_mwanted m_141 v_after v_calls v_oneB v_twoB v_mF m_166.1 m_166.2) → va_S A s.heap H locs → ∀ (ls : Array Slot), lv_has ls 8 [(0, .ref a_mo), (1, .int x0), (2, .int x1), (3, .int x2), (4, .int x_60), (5, .int w_78.2.2.2), (6, .int x_105), (7, .int m_126)] → W p l e rmX12_takeDecimal s m ([.ref a_mo, .int x0, .int x1, .int x2] : List Value).toArray below meth c H locs 0 0 (MQ below (qX12_takeDecimal D cI cB a_mo a_mem a_mks a_mr a_cnt a_wd a_one a_two a_mmade a_mrest a_old v_thrown v_mask v_key v_wait v_problem v_code v_length v_cond v_masks v_addr v_mwanted v_wrong v_after v_calls v_oneB v_twoB v_mF v_oneF v_twoF x0 x1 x2 A) ([.ref a_mo, .int x0, .int x1, .int x2] : List Value).toArray s 0 0 A) (F0 m 166 ls []) := by
                    intro m_166 em_166 H locs hP hD hS ls hl
                    try dsimp only at em_166
                    obtain ⟨x_166, ex_166⟩ : ∃ z : Int32, z = w_78.2.2.2 + 1 := ⟨_, rfl⟩
                    refine lv_iinc (v := x_166) (lv' := [(5, .int x_166), (0, .ref a_mo), (1, .int x0), (2, .int x1), (3, .int x2), (4, .int x_60), (6, .int x_105), (7, .int m_126)]) hx hb dX12_takeDecimal_166 hl (k := 5) rfl (by rw [ex_166]; rfl) (by decide) rfl (fun ls hl => ?_)
                    refine lv_goto (tgt := 78) hx hb dX12_takeDecimal_169 (by decide) ?_
                    exact ih (m_141, m_166.1, m_166.2, x_166) (by subst ex_166; subst em_166; subst em_141; subst em_126; subst ex_105;  exact Nat.lt_of_lt_of_le (ms_up c_85) (Nat.le_of_lt_succ hm9)) (by subst ex_166; subst em_166; subst em_141; subst em_126; subst ex_105;  exact nn_up hI9 c_85) (by rw [← hL9]; subst ex_166; subst ex_105; simp only [LX12_takeDecimal_78, ← em_126, ← em_141, ← em_166]; (try simp only [if_neg c_85])) _ _ hP hD hS ls (lv_sub hl [1, 2, 3, 4, 5, 0] rfl)
                  refine lv_if_eq (tgt := 157) hx hb dX12_takeDecimal_142 (by decide) (fun c_142 => ?_) (fun c_142 => ?_)
                  · skip
                    refine lv_aload_n hx hb dX12_takeDecimal_157 rfl (lv_at hl 0 rfl) ?_
                    refine va_get (D := D) (ci := 12) (v := .ref a_two) (C := RX12) (T := TX12) (N := 26) hx hb hts in_X12 hown hK hP 0 rfl rfl 21 (by decide) q_0 (fun _ h9 => h9) rfl dX12_takeDecimal_158 ?_
                    refine lv_iload hx hb dX12_takeDecimal_161 (lv_at hl 5 rfl) ?_
                    refine lv_iload hx hb dX12_takeDecimal_163 (lv_at hl 7 rfl) ?_
                    refine va_iast hx hb hK hP hD hS 3 0 rfl rfl (td_k hn hI9 c_85) dX12_takeDecimal_165 (fun H locs hP hD hS => ?_)
                    obtain ⟨f_165, ef_165⟩ : ∃ z : Nat → Int32, z = upd w_78.2.2.1 (w_78.2.2.2 : Int32).toNatClampNeg (m_126) := ⟨_, rfl⟩
                    have hP : va_P D vwCl (wX12_takeDecimal cI cB a_mo a_mem a_mks a_mr a_cnt a_wd a_one a_two a_mmade a_mrest a_old v_thrown v_mask v_key v_wait v_problem v_code v_length v_cond v_masks v_addr v_mwanted m_141 v_after v_calls v_oneB v_twoB v_mF w_78.2.1 (upd w_78.2.2.1 (w_78.2.2.2 : Int32).toNatClampNeg (m_126))) H := hP
                    have hD : va_D A (wX12_takeDecimal cI cB a_mo a_mem a_mks a_mr a_cnt a_wd a_one a_two a_mmade a_mrest a_old v_thrown v_mask v_key v_wait v_problem v_code v_length v_cond v_masks v_addr v_mwanted m_141 v_after v_calls v_oneB v_twoB v_mF w_78.2.1 (upd w_78.2.2.1 (w_78.2.2.2 : Int32).toNatClampNeg (m_126))) := hD
                    rw [← ef_165] at hP hD
                    exact J_166 (w_78.2.1, f_165) (by subst ef_165; (try simp only [if_pos c_142])) _ _ hP hD hS ls (lv_sub hl [0, 1, 2, 3, 4, 5, 6, 7] rfl)
                  · skip
                    refine lv_aload_n hx hb dX12_takeDecimal_145 rfl (lv_at hl 0 rfl) ?_
                    refine va_get (D := D) (ci := 12) (v := .ref a_one) (C := RX12) (T := TX12) (N := 26) hx hb hts in_X12 hown hK hP 0 rfl rfl 19 (by decide) q_1 (fun _ h9 => h9) rfl dX12_takeDecimal_146 ?_
                    refine lv_iload hx hb dX12_takeDecimal_149 (lv_at hl 5 rfl) ?_
                    refine lv_iload hx hb dX12_takeDecimal_151 (lv_at hl 7 rfl) ?_
                    refine va_iast hx hb hK hP hD hS 2 0 rfl rfl (td_k hn hI9 c_85) dX12_takeDecimal_153 (fun H locs hP hD hS => ?_)
                    obtain ⟨f_153, ef_153⟩ : ∃ z : Nat → Int32, z = upd w_78.2.1 (w_78.2.2.2 : Int32).toNatClampNeg (m_126) := ⟨_, rfl⟩
                    have hP : va_P D vwCl (wX12_takeDecimal cI cB a_mo a_mem a_mks a_mr a_cnt a_wd a_one a_two a_mmade a_mrest a_old v_thrown v_mask v_key v_wait v_problem v_code v_length v_cond v_masks v_addr v_mwanted m_141 v_after v_calls v_oneB v_twoB v_mF (upd w_78.2.1 (w_78.2.2.2 : Int32).toNatClampNeg (m_126)) w_78.2.2.1) H := hP
                    have hD : va_D A (wX12_takeDecimal cI cB a_mo a_mem a_mks a_mr a_cnt a_wd a_one a_two a_mmade a_mrest a_old v_thrown v_mask v_key v_wait v_problem v_code v_length v_cond v_masks v_addr v_mwanted m_141 v_after v_calls v_oneB v_twoB v_mF (upd w_78.2.1 (w_78.2.2.2 : Int32).toNatClampNeg (m_126)) w_78.2.2.1) := hD
                    rw [← ef_153] at hP hD
                    refine lv_goto (tgt := 166) hx hb dX12_takeDecimal_154 (by decide) ?_
                    exact J_166 (f_153, w_78.2.2.1) (by subst ef_153; (try simp only [if_neg c_142])) _ _ hP hD hS ls (lv_sub hl [0, 1, 2, 3, 4, 5, 6, 7] rfl)
                refine lv_icmp_le (tgt := 141) hx hb dX12_takeDecimal_132 (by decide) (fun c_132 => ?_) (fun c_132 => ?_)
                · skip
                  exact J_141 w_78.1 (by (try simp only [if_pos c_132])) _ _ hP hD hS ls (lv_sub hl [1, 2, 3, 4, 5, 6, 7, 0] rfl)
                · skip
                  refine lv_aload_n hx hb dX12_takeDecimal_135 rfl (lv_at hl 1 rfl) ?_
                  refine lv_bipush (v := 7) hx hb dX12_takeDecimal_136 (by decide) ?_
                  have hPc : va_P D vwCl (wX12_meet cI cB a_mo a_mem a_mks a_mr a_cnt a_wd a_one a_two a_mmade a_mrest a_old v_thrown v_mask v_key v_wait v_problem v_code v_length v_cond v_masks v_addr v_mwanted w_78.1 v_after v_calls v_oneB v_twoB) H := hP.sub [0] rfl
                  have hDc : va_D A (wX12_meet cI cB a_mo a_mem a_mks a_mr a_cnt a_wd a_one a_two a_mmade a_mrest a_old v_thrown v_mask v_key v_wait v_problem v_code v_length v_cond v_masks v_addr v_mwanted w_78.1 v_after v_calls v_oneB v_twoB) := hD.sub [0] (by decide) rfl
                  have hFc := va_free (wc := (wX12_meet cI cB a_mo a_mem a_mks a_mr a_cnt a_wd a_one a_two a_mmade a_mrest a_old v_thrown v_mask v_key v_wait v_problem v_code v_length v_cond v_masks v_addr v_mwanted w_78.1 v_after v_calls v_oneB v_twoB)) hD hS hA [0] rfl
                  refine va_callv (va_runV (As := [.int 7]) (rest := []) ⟨hx, hb, hml, hown, hts⟩ (kX12_meet l D cI cB a_mo a_mem a_mks a_mr a_cnt a_wd a_one a_two a_mmade a_mrest a_old H.size v_thrown v_mask v_key v_wait v_problem v_code v_length v_cond v_masks v_addr v_mwanted w_78.1 v_after v_calls v_oneB v_twoB 7) (cwV 1 hts (gd_V wd_838 wd_839 wd_840 wd_807 wd_835) rfl rfl rfl hdX12_meet ⟨Nat.le_of_ble_eq_true rfl, Nat.le_of_ble_eq_true rfl⟩) (preV_std (ci := 12) (q0 := 0) hPc hK hDc hNW rfl rfl) rfl rfl hl.1 rfl (lv_room (Nat.le_of_ble_eq_true rfl)) dX12_takeDecimal_138 ⟨Nat.zero_le _, Nat.zero_le _⟩) hS (fun q _ h => hFc q h) hFc (fun u_138 t9 H1 locs ht9 hvm9 hw9 hB9 hz9 hk9 hS => ?_)
                  have eu_138 : u_138 = fX12_meet 7 w_78.1 := hw9
                  obtain ⟨hP, hD⟩ := back_std (w1 := (wX12_meet cI cB a_mo a_mem a_mks a_mr a_cnt a_wd a_one a_two a_mmade a_mrest a_old v_thrown v_mask v_key v_wait v_problem v_code v_length v_cond v_masks v_addr v_mwanted u_138 v_after v_calls v_oneB v_twoB)) (w2 := (wX12_takeDecimal cI cB a_mo a_mem a_mks a_mr a_cnt a_wd a_one a_two a_mmade a_mrest a_old v_thrown v_mask v_key v_wait v_problem v_code v_length v_cond v_masks v_addr v_mwanted u_138 v_after v_calls v_oneB v_twoB v_mF w_78.2.1 w_78.2.2.1)) (wr := [(a_mem, .inl (cI, 8192, .inl v_mF)), (a_one, .inl (cI, 80, .inl w_78.2.1)), (a_two, .inl (cI, 80, .inl w_78.2.2.1))]) hP hD [0] [1, 2, 3] [3, 0, 1, 2] rfl rfl (by decide) (by decide) hk9 hFc hB9 ht9 (by decide) rfl
                  clear hB9 hk9 hz9 hvm9 ht9 hFc hPc hDc
                  generalize H1 = H at hP hS ⊢
                  exact J_141 u_138 (by (try simp only [← eu_138]); (try simp only [if_neg c_132])) _ _ hP hD hS ls (lv_sub hl [1, 2, 3, 4, 5, 6, 7, 0] rfl)
              refine lv_if_ne (tgt := 121) hx hb dX12_takeDecimal_111 (by decide) (fun c_111 => ?_) (fun c_111 => ?_)
              · skip
                refine lv_iload hx hb dX12_takeDecimal_121 (lv_at hl 0 rfl) ?_
                refine lv_bipush (v := 15) hx hb dX12_takeDecimal_123 (by decide) ?_
                refine lv_iand hx hb dX12_takeDecimal_125 ?_
                exact J_126 (x_105 &&& 15) (by (try simp only [if_neg c_111])) _ _ hP hD hS ls (lv_sub hl [1, 2, 3, 4, 5, 6, 0] rfl)
              · skip
                refine lv_iload hx hb dX12_takeDecimal_114 (lv_at hl 0 rfl) ?_
                refine lv_iconst (v := 4) hx hb dX12_takeDecimal_116 (by decide) ?_
                refine lv_ishr hx hb dX12_takeDecimal_117 ?_
                refine lv_goto (tgt := 126) hx hb dX12_takeDecimal_118 (by decide) ?_
                exact J_126 (x_105 >>> (4 &&& 31)) (by (try simp only [if_pos c_111])) _ _ hP hD hS ls (lv_sub hl [1, 2, 3, 4, 5, 6, 0] rfl)
        exact lp_78 (msU ((2 * x1) - 1) 0 + 1) (m_75, g_3.1, g_3.2.1, 0) (Nat.lt_succ_self _) (by show (0 : Int32) ≤ 0; decide) eg_78.symm _ _ hP hD hS ls (lv_sub hl [1, 2, 3, 4, 5, 0] rfl)
      refine lv_icmp_ge (tgt := 75) hx hb dX12_takeDecimal_66 (by decide) (fun c_66 => ?_) (fun c_66 => ?_)
      · skip
        exact J_75 v_wrong (by (try simp only [if_pos c_66])) _ _ hP hD hS ls (lv_sub hl [1, 2, 3, 4, 0] rfl)
      · skip
        refine lv_aload_n hx hb dX12_takeDecimal_69 rfl (lv_at hl 1 rfl) ?_
        refine lv_bipush (v := 7) hx hb dX12_takeDecimal_70 (by decide) ?_
        have hPc : va_P D vwCl (wX12_meet cI cB a_mo a_mem a_mks a_mr a_cnt a_wd a_one a_two a_mmade a_mrest a_old v_thrown v_mask v_key v_wait v_problem v_code v_length v_cond v_masks v_addr v_mwanted v_wrong v_after v_calls v_oneB v_twoB) H := hP.sub [0] rfl
        have hDc : va_D A (wX12_meet cI cB a_mo a_mem a_mks a_mr a_cnt a_wd a_one a_two a_mmade a_mrest a_old v_thrown v_mask v_key v_wait v_problem v_code v_length v_cond v_masks v_addr v_mwanted v_wrong v_after v_calls v_oneB v_twoB) := hD.sub [0] (by decide) rfl
        have hFc := va_free (wc := (wX12_meet cI cB a_mo a_mem a_mks a_mr a_cnt a_wd a_one a_two a_mmade a_mrest a_old v_thrown v_mask v_key v_wait v_problem v_code v_length v_cond v_masks v_addr v_mwanted v_wrong v_after v_calls v_oneB v_twoB)) hD hS hA [0] rfl
        refine va_callv (va_runV (As := [.int 7]) (rest := []) ⟨hx, hb, hml, hown, hts⟩ (kX12_meet l D cI cB a_mo a_mem a_mks a_mr a_cnt a_wd a_one a_two a_mmade a_mrest a_old H.size v_thrown v_mask v_key v_wait v_problem v_code v_length v_cond v_masks v_addr v_mwanted v_wrong v_after v_calls v_oneB v_twoB 7) (cwV 1 hts (gd_V wd_838 wd_839 wd_840 wd_807 wd_835) rfl rfl rfl hdX12_meet ⟨Nat.le_of_ble_eq_true rfl, Nat.le_of_ble_eq_true rfl⟩) (preV_std (ci := 12) (q0 := 0) hPc hK hDc hNW rfl rfl) rfl rfl hl.1 rfl (lv_room (Nat.le_of_ble_eq_true rfl)) dX12_takeDecimal_72 ⟨Nat.zero_le _, Nat.zero_le _⟩) hS (fun q _ h => hFc q h) hFc (fun u_72 t9 H1 locs ht9 hvm9 hw9 hB9 hz9 hk9 hS => ?_)
        have eu_72 : u_72 = fX12_meet 7 v_wrong := hw9
        obtain ⟨hP, hD⟩ := back_std (w1 := (wX12_meet cI cB a_mo a_mem a_mks a_mr a_cnt a_wd a_one a_two a_mmade a_mrest a_old v_thrown v_mask v_key v_wait v_problem v_code v_length v_cond v_masks v_addr v_mwanted u_72 v_after v_calls v_oneB v_twoB)) (w2 := (wX12_takeDecimal cI cB a_mo a_mem a_mks a_mr a_cnt a_wd a_one a_two a_mmade a_mrest a_old v_thrown v_mask v_key v_wait v_problem v_code v_length v_cond v_masks v_addr v_mwanted u_72 v_after v_calls v_oneB v_twoB v_mF g_3.1 g_3.2.1)) (wr := [(a_mem, .inl (cI, 8192, .inl v_mF)), (a_one, .inl (cI, 80, .inl g_3.1)), (a_two, .inl (cI, 80, .inl g_3.2.1))]) hP hD [0] [1, 2, 3] [3, 0, 1, 2] rfl rfl (by decide) (by decide) hk9 hFc hB9 ht9 (by decide) rfl
        clear hB9 hk9 hz9 hvm9 ht9 hFc hPc hDc
        generalize H1 = H at hP hS ⊢
        exact J_75 u_72 (by (try simp only [← eu_72]); (try simp only [if_neg c_66])) _ _ hP hD hS ls (lv_sub hl [1, 2, 3, 4, 0] rfl)
    · skip
      have hf9 : (v_wrong, v_oneB, v_twoB, g_3.1, g_3.2.1) = fX12_takeDecimal x0 x1 x2 v_wrong v_oneB v_twoB v_mF v_oneF v_twoF := by simp only [fX12_takeDecimal, ← eg_3]; (try simp only [if_neg c_43])
      exact W.vret hx hb hr (fun t9 ht9 hW9 => ⟨⟨(v_wrong, v_oneB, v_twoB, g_3.1, g_3.2.1), rfl, hf9, ⟨by rw [ht9]; exact hP, va_K.moved hW9.alike hK, hD⟩⟩, hS.F ht9⟩) hS.2.2 dX12_takeDecimal_46
  have lp_3 : ∀ (n9 : Nat) (w_3 : ((Nat → Int32) × (Nat → Int32) × Int32)), msU 80 w_3.2.2 < n9 → 0 ≤ w_3.2.2 → LX12_takeDecimal_3 x2 n9 w_3 = g_3 → ∀ (H : Heap) (locs : List Loc), va_P D vwCl (wX12_takeDecimal cI cB a_mo a_mem a_mks a_mr a_cnt a_wd a_one a_two a_mmade a_mrest a_old v_thrown v_mask v_key v_wait v_problem v_code v_length v_cond v_masks v_addr v_mwanted v_wrong v_after v_calls v_oneB v_twoB v_mF w_3.1 w_3.2.1) H → va_D A (wX12_takeDecimal cI cB a_mo a_mem a_mks a_mr a_cnt a_wd a_one a_two a_mmade a_mrest a_old v_thrown v_mask v_key v_wait v_problem v_code v_length v_cond v_masks v_addr v_mwanted v_wrong v_after v_calls v_oneB v_twoB v_mF w_3.1 w_3.2.1) → va_S A s.heap H locs → ∀ (ls : Array Slot), lv_has ls 8 [(0, .ref a_mo), (1, .int x0), (2, .int x1), (3, .int x2), (4, .int w_3.2.2)] → W p l e rmX12_takeDecimal s m ([.ref a_mo, .int x0, .int x1, .int x2] : List Value).toArray below meth c H locs 0 0 (MQ below (qX12_takeDecimal D cI cB a_mo a_mem a_mks a_mr a_cnt a_wd a_one a_two a_mmade a_mrest a_old v_thrown v_mask v_key v_wait v_problem v_code v_length v_cond v_masks v_addr v_mwanted v_wrong v_after v_calls v_oneB v_twoB v_mF v_oneF v_twoF x0 x1 x2 A) ([.ref a_mo, .int x0, .int x1, .int x2] : List Value).toArray s 0 0 A) (F0 m 3 ls []) := by
    intro n9
    induction n9 with
    | zero => intro w_3 hm9; exact absurd hm9 (Nat.not_lt_zero _)
    | succ n9 ih =>
      intro w_3 hm9 hI9 hL9 H locs hP hD hS ls hl
      have hI_3 := hI9
      refine lv_iload hx hb dX12_takeDecimal_3 (lv_at hl 4 rfl) ?_
      refine lv_bipush (v := 80) hx hb dX12_takeDecimal_5 (by decide) ?_
      refine lv_icmp_ge (tgt := 39) hx hb dX12_takeDecimal_7 (by decide) (fun c_7 => ?_) (fun c_7 => ?_)
      · skip
        have hg9 : (w_3.1, w_3.2.1, w_3.2.2) = g_3 := by rw [← hL9]; simp only [LX12_takeDecimal_3]; (try simp only [if_pos c_7])
        subst hg9
        exact K_3_0 _ _ hP hD hS ls (lv_sub hl [0, 1, 2, 3, 4] rfl)
      · skip
        refine lv_iload_n hx hb dX12_takeDecimal_10 rfl (lv_at hl 3 rfl) ?_
        have J_33 : ∀ (m_33 : ((Nat → Int32) × (Nat → Int32))), m_33 = (if x2 = 0 then (let f_32 := upd w_3.2.1 (w_3.2.2 : Int32).toNatClampNeg (0); (w_3.1, f_32)) else (let f_21 := upd w_3.1 (w_3.2.2 : Int32).toNatClampNeg (0); (f_21, w_3.2.1))) → ∀ (H : Heap) (locs : List Loc), va_P D vwCl (wX12_takeDecimal cI cB a_mo a_mem a_mks a_mr a_cnt a_wd a_one a_two a_mmade a_mrest a_old v_thrown v_mask v_key v_wait v_problem v_code v_length v_cond v_masks v_addr v_mwanted v_wrong v_after v_calls v_oneB v_twoB v_mF m_33.1 m_33.2) H → va_D A (wX12_takeDecimal cI cB a_mo a_mem a_mks a_mr a_cnt a_wd a_one a_two a_mmade a_mrest a_old v_thrown v_mask v_key v_wait v_problem v_code v_length v_cond v_masks v_addr v_mwanted v_wrong v_after v_calls v_oneB v_twoB v_mF m_33.1 m_33.2) → va_S A s.heap H locs → ∀ (ls : Array Slot), lv_has ls 8 [(0, .ref a_mo), (1, .int x0), (2, .int x1), (3, .int x2), (4, .int w_3.2.2)] → W p l e rmX12_takeDecimal s m ([.ref a_mo, .int x0, .int x1, .int x2] : List Value).toArray below meth c H locs 0 0 (MQ below (qX12_takeDecimal D cI cB a_mo a_mem a_mks a_mr a_cnt a_wd a_one a_two a_mmade a_mrest a_old v_thrown v_mask v_key v_wait v_problem v_code v_length v_cond v_masks v_addr v_mwanted v_wrong v_after v_calls v_oneB v_twoB v_mF v_oneF v_twoF x0 x1 x2 A) ([.ref a_mo, .int x0, .int x1, .int x2] : List Value).toArray s 0 0 A) (F0 m 33 ls []) := by
          intro m_33 em_33 H locs hP hD hS ls hl
          try dsimp only at em_33
          obtain ⟨x_33, ex_33⟩ : ∃ z : Int32, z = w_3.2.2 + 1 := ⟨_, rfl⟩
          refine lv_iinc (v := x_33) (lv' := [(4, .int x_33), (0, .ref a_mo), (1, .int x0), (2, .int x1), (3, .int x2)]) hx hb dX12_takeDecimal_33 hl (k := 4) rfl (by rw [ex_33]; rfl) (by decide) rfl (fun ls hl => ?_)
          refine lv_goto (tgt := 3) hx hb dX12_takeDecimal_36 (by decide) ?_
          exact ih (m_33.1, m_33.2, x_33) (by subst ex_33; subst em_33;  exact Nat.lt_of_lt_of_le (ms_up c_7) (Nat.le_of_lt_succ hm9)) (by subst ex_33; subst em_33;  exact nn_up hI9 c_7) (by rw [← hL9]; subst ex_33; simp only [LX12_takeDecimal_3, ← em_33]; (try simp only [if_neg c_7])) _ _ hP hD hS ls (lv_sub hl [1, 2, 3, 4, 0] rfl)
        refine lv_if_eq (tgt := 25) hx hb dX12_takeDecimal_11 (by decide) (fun c_11 => ?_) (fun c_11 => ?_)
        · skip
          refine lv_aload_n hx hb dX12_takeDecimal_25 rfl (lv_at hl 0 rfl) ?_
          refine va_get (D := D) (ci := 12) (v := .ref a_two) (C := RX12) (T := TX12) (N := 26) hx hb hts in_X12 hown hK hP 0 rfl rfl 21 (by decide) q_0 (fun _ h9 => h9) rfl dX12_takeDecimal_26 ?_
          refine lv_iload hx hb dX12_takeDecimal_29 (lv_at hl 4 rfl) ?_
          refine lv_iconst (v := 0) hx hb dX12_takeDecimal_31 (by decide) ?_
          refine va_iast hx hb hK hP hD hS 3 0 rfl rfl (by first | with_reducible assumption | exact vin_of (b := 80) (by decide) (by with_reducible assumption) (by with_reducible assumption) | exact vin_of (b := 80) (by decide) (Int32.not_lt.mp (by with_reducible assumption)) (by with_reducible assumption) | exact vin_dn (by decide) (by with_reducible assumption) hI9) dX12_takeDecimal_32 (fun H locs hP hD hS => ?_)
          obtain ⟨f_32, ef_32⟩ : ∃ z : Nat → Int32, z = upd w_3.2.1 (w_3.2.2 : Int32).toNatClampNeg (0) := ⟨_, rfl⟩
          have hP : va_P D vwCl (wX12_takeDecimal cI cB a_mo a_mem a_mks a_mr a_cnt a_wd a_one a_two a_mmade a_mrest a_old v_thrown v_mask v_key v_wait v_problem v_code v_length v_cond v_masks v_addr v_mwanted v_wrong v_after v_calls v_oneB v_twoB v_mF w_3.1 (upd w_3.2.1 (w_3.2.2 : Int32).toNatClampNeg (0))) H := hP
          have hD : va_D A (wX12_takeDecimal cI cB a_mo a_mem a_mks a_mr a_cnt a_wd a_one a_two a_mmade a_mrest a_old v_thrown v_mask v_key v_wait v_problem v_code v_length v_cond v_masks v_addr v_mwanted v_wrong v_after v_calls v_oneB v_twoB v_mF w_3.1 (upd w_3.2.1 (w_3.2.2 : Int32).toNatClampNeg (0))) := hD
          rw [← ef_32] at hP hD
          exact J_33 (w_3.1, f_32) (by subst ef_32; (try simp only [if_pos c_11])) _ _ hP hD hS ls (lv_sub hl [0, 1, 2, 3, 4] rfl)
        · skip
          refine lv_aload_n hx hb dX12_takeDecimal_14 rfl (lv_at hl 0 rfl) ?_
          refine va_get (D := D) (ci := 12) (v := .ref a_one) (C := RX12) (T := TX12) (N := 26) hx hb hts in_X12 hown hK hP 0 rfl rfl 19 (by decide) q_1 (fun _ h9 => h9) rfl dX12_takeDecimal_15 ?_
          refine lv_iload hx hb dX12_takeDecimal_18 (lv_at hl 4 rfl) ?_
          refine lv_iconst (v := 0) hx hb dX12_takeDecimal_20 (by decide) ?_
          refine va_iast hx hb hK hP hD hS 2 0 rfl rfl (by first | with_reducible assumption | exact vin_of (b := 80) (by decide) (by with_reducible assumption) (by with_reducible assumption) | exact vin_of (b := 80) (by decide) (Int32.not_lt.mp (by with_reducible assumption)) (by with_reducible assumption) | exact vin_dn (by decide) (by with_reducible assumption) hI9) dX12_takeDecimal_21 (fun H locs hP hD hS => ?_)
          obtain ⟨f_21, ef_21⟩ : ∃ z : Nat → Int32, z = upd w_3.1 (w_3.2.2 : Int32).toNatClampNeg (0) := ⟨_, rfl⟩
          have hP : va_P D vwCl (wX12_takeDecimal cI cB a_mo a_mem a_mks a_mr a_cnt a_wd a_one a_two a_mmade a_mrest a_old v_thrown v_mask v_key v_wait v_problem v_code v_length v_cond v_masks v_addr v_mwanted v_wrong v_after v_calls v_oneB v_twoB v_mF (upd w_3.1 (w_3.2.2 : Int32).toNatClampNeg (0)) w_3.2.1) H := hP
          have hD : va_D A (wX12_takeDecimal cI cB a_mo a_mem a_mks a_mr a_cnt a_wd a_one a_two a_mmade a_mrest a_old v_thrown v_mask v_key v_wait v_problem v_code v_length v_cond v_masks v_addr v_mwanted v_wrong v_after v_calls v_oneB v_twoB v_mF (upd w_3.1 (w_3.2.2 : Int32).toNatClampNeg (0)) w_3.2.1) := hD
          rw [← ef_21] at hP hD
          refine lv_goto (tgt := 33) hx hb dX12_takeDecimal_22 (by decide) ?_
          exact J_33 (f_21, w_3.2.1) (by subst ef_21; (try simp only [if_neg c_11])) _ _ hP hD hS ls (lv_sub hl [0, 1, 2, 3, 4] rfl)
  exact lp_3 (msU 80 0 + 1) (v_oneF, v_twoF, 0) (Nat.lt_succ_self _) (by show (0 : Int32) ≤ 0; decide) eg_3.symm _ _ hP hD hS ls (lv_sub hl [1, 2, 3, 4, 0] rfl)
theorem hdX12_takeDecimal : yX12_takeDecimal.cls = RX12 ∧ yX12_takeDecimal.cls ≠ "java/lang/invoke/MethodHandle" ∧ yX12_takeDecimal.cls ≠ "java/lang/invoke/VarHandle" ∧ (parseMethodDescriptor yX12_takeDecimal.desc).map (fun d => d.parameters.length) = some 3 := by decide +kernel
noncomputable def LX12_putDecimal_9 (x1 : Int32) (v_mmF : (Nat → Int32)) : Nat → (Int32 × Int32 × Int32) → (Int32 × Int32 × Int32)
  | 0, w_9 => w_9
  | n9 + 1, w_9 =>
    if 80 ≤ w_9.2.2 then ((w_9.1, w_9.2.1, w_9.2.2)) else (let m_46 : Int32 := (if w_9.1 = 0 then (if w_9.2.2 < ((2 * x1) - 1) then (0) else (if (v_mmF (w_9.2.2 : Int32).toNatClampNeg) = 0 then (0) else (1))) else (1)); let m_68 : Int32 := (if w_9.2.1 = 0 then (0) else (if (v_mmF (w_9.2.2 : Int32).toNatClampNeg) = 0 then (1) else (0))); let x_70 := w_9.2.2 + 1; LX12_putDecimal_9 x1 v_mmF n9 (m_46, m_68, x_70))
theorem zLX12_putDecimal_9 (x1 : Int32) (v_mmF : (Nat → Int32)) : ∀ (n9 : Nat) (w9 : (Int32 × Int32 × Int32)), (w9.1 = 0 ∨ w9.1 = 1) → ((LX12_putDecimal_9 x1 v_mmF n9 w9).1 = 0 ∨ (LX12_putDecimal_9 x1 v_mmF n9 w9).1 = 1)
  | 0, w9, h9 => h9
  | n9 + 1, w9, h9 => by
    simp only [LX12_putDecimal_9]
    (repeat' split) <;> first | exact h9 | exact zLX12_putDecimal_9 x1 v_mmF n9 _ (Or.inl rfl) | exact zLX12_putDecimal_9 x1 v_mmF n9 _ (Or.inr rfl) | exact zLX12_putDecimal_9 x1 v_mmF n9 _ h9
noncomputable def LX12_putDecimal_100 (x0 : Int32) (x1 : Int32) (v_mmF : (Nat → Int32)) (m_95 : Int32) : Nat → ((Nat → Int32) × Int32) → ((Nat → Int32) × Int32)
  | 0, w_100 => w_100
  | n9 + 1, w_100 =>
    if x1 ≤ w_100.2 then ((w_100.1, w_100.2)) else (let x_115 := (v_mmF ((2 * w_100.2) : Int32).toNatClampNeg); let m_148 : Int32 := (if w_100.2 = 0 then (if m_95 = 0 then (12) else (13)) else ((v_mmF (((2 * w_100.2) - 1) : Int32).toNatClampNeg))); let f_169 := upd w_100.1 ((((x0 + x1) - 1) - w_100.2) : Int32).toNatClampNeg (((x_115 <<< (4 &&& 31)) ||| m_148)); let x_170 := w_100.2 + 1; LX12_putDecimal_100 x0 x1 v_mmF m_95 n9 (f_169, x_170))
noncomputable def fX12_putDecimal (x0 : Int32) (x1 : Int32) (x2 : Int32) (x3 : Int32) (v_mF : (Nat → Int32)) (v_mmF : (Nat → Int32)) : (Int32 × (Nat → Int32)) :=
  let g_9 := LX12_putDecimal_9 x1 v_mmF (msU 80 0 + 1) (0, 1, 0)
  let m_95 : Int32 := (if x2 = 0 then (0) else (if g_9.2.1 = 0 then (1) else (if x3 = 0 then (0) else (1))))
  let g_100 := LX12_putDecimal_100 x0 x1 v_mmF m_95 (msU x1 0 + 1) (v_mF, 0)
  (g_9.1, g_100.1)
theorem zX12_putDecimal (x0 : Int32) (x1 : Int32) (x2 : Int32) (x3 : Int32) (v_mF : (Nat → Int32)) (v_mmF : (Nat → Int32)) : (fX12_putDecimal x0 x1 x2 x3 v_mF v_mmF).1 = 0 ∨ (fX12_putDecimal x0 x1 x2 x3 v_mF v_mmF).1 = 1 := by simp only [fX12_putDecimal]; exact zLX12_putDecimal_9 _ _ _ _ (Or.inl rfl)
abbrev wX12_putDecimal (cI cB : ClassId) (a_mo a_mem a_mks a_mr a_cnt a_wd a_one a_two a_mmade a_mrest a_old : Nat) (v_thrown : Int32) (v_mask : Int32) (v_key : Int32) (v_wait : Int32) (v_problem : Int32) (v_code : Int32) (v_length : Int32) (v_cond : Int32) (v_masks : Int32) (v_addr : Int32) (v_mwanted : Int32) (v_wrong : Int32) (v_after : Int32) (v_calls : Int32) (v_oneB : Int32) (v_twoB : Int32) (v_mF : (Nat → Int32)) (v_mmF : (Nat → Int32)) : va_W := [(a_mo, .inr (12, [.int v_thrown, .ref a_mem, .ref a_mks, .ref a_mr, .int v_mask, .int v_key, .int v_wait, .int v_problem, .int v_code, .int v_length, .int v_cond, .int v_masks, .int v_addr, .int v_mwanted, .ref a_cnt, .ref a_wd, .int v_wrong, .int v_after, .int v_calls, .ref a_one, .int v_oneB, .ref a_two, .int v_twoB, .ref a_mmade, .ref a_mrest, .ref a_old])), (a_mem, .inl (cI, 8192, .inl v_mF)), (a_mmade, .inl (cI, 80, .inl v_mmF))]
abbrev rmX12_putDecimal : Room := { frames := 0, cells := 0, slots := 0, locals := 0 }
abbrev qX12_putDecimal (D : va_G) (cI cB : ClassId) (a_mo a_mem a_mks a_mr a_cnt a_wd a_one a_two a_mmade a_mrest a_old : Nat) (v_thrown : Int32) (v_mask : Int32) (v_key : Int32) (v_wait : Int32) (v_problem : Int32) (v_code : Int32) (v_length : Int32) (v_cond : Int32) (v_masks : Int32) (v_addr : Int32) (v_mwanted : Int32) (v_wrong : Int32) (v_after : Int32) (v_calls : Int32) (v_oneB : Int32) (v_twoB : Int32) (v_mF : (Nat → Int32)) (v_mmF : (Nat → Int32)) (x0 : Int32) (x1 : Int32) (x2 : Int32) (x3 : Int32) : (Nat → Prop) → Array Value → State → Outcome → State → Prop := fun A9 => va_Qi (fun (r9 : Int32) (u9 : (Nat → Int32)) => r9 = (fX12_putDecimal x0 x1 x2 x3 v_mF v_mmF).1 ∧ u9 = (fX12_putDecimal x0 x1 x2 x3 v_mF v_mmF).2) (fun u9 t9 => atW D (TYS cI cB) A9 (wX12_putDecimal cI cB a_mo a_mem a_mks a_mr a_cnt a_wd a_one a_two a_mmade a_mrest a_old v_thrown v_mask v_key v_wait v_problem v_code v_length v_cond v_masks v_addr v_mwanted v_wrong v_after v_calls v_oneB v_twoB u9 v_mmF) t9) A9
set_option maxHeartbeats 4000000 in
set_option maxRecDepth 100000 in
theorem kX12_putDecimal (l : Launch) (D : va_G) (cI cB : ClassId) (a_mo a_mem a_mks a_mr a_cnt a_wd a_one a_two a_mmade a_mrest a_old : Nat) (sz : Nat) (v_thrown : Int32) (v_mask : Int32) (v_key : Int32) (v_wait : Int32) (v_problem : Int32) (v_code : Int32) (v_length : Int32) (v_cond : Int32) (v_masks : Int32) (v_addr : Int32) (v_mwanted : Int32) (v_wrong : Int32) (v_after : Int32) (v_calls : Int32) (v_oneB : Int32) (v_twoB : Int32) (v_mF : (Nat → Int32)) (v_mmF : (Nat → Int32)) (x0 : Int32) (x1 : Int32) (x2 : Int32) (x3 : Int32) (hn : 1 ≤ x1.toInt ∧ x1.toInt ≤ 16) (ha : inM x0 x1) : MetW l yX12_putDecimal (WK yX12_putDecimal cX12_putDecimal 11 (some .boolean)) rmX12_putDecimal D (TYS cI cB) (wX12_putDecimal cI cB a_mo a_mem a_mks a_mr a_cnt a_wd a_one a_two a_mmade a_mrest a_old v_thrown v_mask v_key v_wait v_problem v_code v_length v_cond v_masks v_addr v_mwanted v_wrong v_after v_calls v_oneB v_twoB v_mF v_mmF) sz [.ref a_mo, .int x0, .int x1, .int x2, .int x3] (qX12_putDecimal D cI cB a_mo a_mem a_mks a_mr a_cnt a_wd a_one a_two a_mmade a_mrest a_old v_thrown v_mask v_key v_wait v_problem v_code v_length v_cond v_masks v_addr v_mwanted v_wrong v_after v_calls v_oneB v_twoB v_mF v_mmF x0 x1 x2 x3) 0 0 := by
  refine met_std (by decide) rfl (Nat.le_of_ble_eq_true rfl) ?_
  intro p e s m below meth c A ls H hx hb hr hml hown hts hlocks hA hP hK hD hS hNW hl
  have hl : lv_has ls 11 [(0, .ref a_mo), (1, .int x0), (2, .int x1), (3, .int x2), (4, .int x3)] := hl
  have q_0 := hts _ (List.mem_cons_of_mem _ wd_784)
  have q_1 := hts _ (List.mem_cons_of_mem _ wd_777)
  refine lv_iconst (v := 0) hx hb dX12_putDecimal_0 (by decide) ?_
  refine lv_istore (lv' := [(5, .int 0), (0, .ref a_mo), (1, .int x0), (2, .int x1), (3, .int x2), (4, .int x3)]) hx hb dX12_putDecimal_1 hl (by decide) rfl (fun ls hl => ?_)
  refine lv_iconst (v := 1) hx hb dX12_putDecimal_3 (by decide) ?_
  refine lv_istore (lv' := [(6, .int 1), (5, .int 0), (0, .ref a_mo), (1, .int x0), (2, .int x1), (3, .int x2), (4, .int x3)]) hx hb dX12_putDecimal_4 hl (by decide) rfl (fun ls hl => ?_)
  refine lv_iconst (v := 0) hx hb dX12_putDecimal_6 (by decide) ?_
  refine lv_istore (lv' := [(7, .int 0), (6, .int 1), (5, .int 0), (0, .ref a_mo), (1, .int x0), (2, .int x1), (3, .int x2), (4, .int x3)]) hx hb dX12_putDecimal_7 hl (by decide) rfl (fun ls hl => ?_)
  obtain ⟨g_9, eg_9⟩ : ∃ z : (Int32 × Int32 × Int32), z = LX12_putDecimal_9 x1 v_mmF (msU 80 0 + 1) (0, 1, 0) := ⟨_, rfl⟩
  have zg_9 : g_9.1 = 0 ∨ g_9.1 = 1 := by rw [eg_9]; exact zLX12_putDecimal_9 x1 v_mmF _ _ (by first | exact Or.inl rfl | exact Or.inr rfl | assumption)
  have K_9_0 : ∀ (H : Heap) (locs : List Loc), va_P D vwCl (wX12_putDecimal cI cB a_mo a_mem a_mks a_mr a_cnt a_wd a_one a_two a_mmade a_mrest a_old v_thrown v_mask v_key v_wait v_problem v_code v_length v_cond v_masks v_addr v_mwanted v_wrong v_after v_calls v_oneB v_twoB v_mF v_mmF) H → va_D A (wX12_putDecimal cI cB a_mo a_mem a_mks a_mr a_cnt a_wd a_one a_two a_mmade a_mrest a_old v_thrown v_mask v_key v_wait v_problem v_code v_length v_cond v_masks v_addr v_mwanted v_wrong v_after v_calls v_oneB v_twoB v_mF v_mmF) → va_S A s.heap H locs → ∀ (ls : Array Slot), lv_has ls 11 [(0, .ref a_mo), (1, .int x0), (2, .int x1), (3, .int x2), (4, .int x3), (5, .int g_9.1), (6, .int g_9.2.1), (7, .int g_9.2.2)] → W p l e rmX12_putDecimal s m ([.ref a_mo, .int x0, .int x1, .int x2, .int x3] : List Value).toArray below meth c H locs 0 0 (MQ below (qX12_putDecimal D cI cB a_mo a_mem a_mks a_mr a_cnt a_wd a_one a_two a_mmade a_mrest a_old v_thrown v_mask v_key v_wait v_problem v_code v_length v_cond v_masks v_addr v_mwanted v_wrong v_after v_calls v_oneB v_twoB v_mF v_mmF x0 x1 x2 x3 A) ([.ref a_mo, .int x0, .int x1, .int x2, .int x3] : List Value).toArray s 0 0 A) (F0 m 76 ls []) := by
    intro H locs hP hD hS ls hl
    refine lv_iload_n hx hb dX12_putDecimal_76 rfl (lv_at hl 3 rfl) ?_
    have J_95 : ∀ (m_95 : Int32), m_95 = (if x2 = 0 then (0) else (if g_9.2.1 = 0 then (1) else (if x3 = 0 then (0) else (1)))) → ∀ (H : Heap) (locs : List Loc), va_P D vwCl (wX12_putDecimal cI cB a_mo a_mem a_mks a_mr a_cnt a_wd a_one a_two a_mmade a_mrest a_old v_thrown v_mask v_key v_wait v_problem v_code v_length v_cond v_masks v_addr v_mwanted v_wrong v_after v_calls v_oneB v_twoB v_mF v_mmF) H → va_D A (wX12_putDecimal cI cB a_mo a_mem a_mks a_mr a_cnt a_wd a_one a_two a_mmade a_mrest a_old v_thrown v_mask v_key v_wait v_problem v_code v_length v_cond v_masks v_addr v_mwanted v_wrong v_after v_calls v_oneB v_twoB v_mF v_mmF) → va_S A s.heap H locs → ∀ (ls : Array Slot), lv_has ls 11 [(0, .ref a_mo), (1, .int x0), (2, .int x1), (3, .int x2), (4, .int x3), (5, .int g_9.1), (6, .int g_9.2.1), (7, .int g_9.2.2)] → W p l e rmX12_putDecimal s m ([.ref a_mo, .int x0, .int x1, .int x2, .int x3] : List Value).toArray below meth c H locs 0 0 (MQ below (qX12_putDecimal D cI cB a_mo a_mem a_mks a_mr a_cnt a_wd a_one a_two a_mmade a_mrest a_old v_thrown v_mask v_key v_wait v_problem v_code v_length v_cond v_masks v_addr v_mwanted v_wrong v_after v_calls v_oneB v_twoB v_mF v_mmF x0 x1 x2 x3 A) ([.ref a_mo, .int x0, .int x1, .int x2, .int x3] : List Value).toArray s 0 0 A) (F0 m 95 ls [.int m_95]) := by
      intro m_95 em_95 H locs hP hD hS ls hl
      try dsimp only at em_95
      have zm_95_0 : m_95 = 0 ∨ m_95 = 1 := by rw [em_95]; (try dsimp only); (repeat' split) <;> first | exact Or.inl rfl | exact Or.inr rfl
      refine lv_istore (lv' := [(7, .int m_95), (0, .ref a_mo), (1, .int x0), (2, .int x1), (3, .int x2), (4, .int x3), (5, .int g_9.1), (6, .int g_9.2.1)]) hx hb dX12_putDecimal_95 hl (by decide) rfl (fun ls hl => ?_)
      refine lv_iconst (v := 0) hx hb dX12_putDecimal_97 (by decide) ?_
      refine lv_istore (lv' := [(8, .int 0), (7, .int m_95), (0, .ref a_mo), (1, .int x0), (2, .int x1), (3, .int x2), (4, .int x3), (5, .int g_9.1), (6, .int g_9.2.1)]) hx hb dX12_putDecimal_98 hl (by decide) rfl (fun ls hl => ?_)
      obtain ⟨g_100, eg_100⟩ : ∃ z : ((Nat → Int32) × Int32), z = LX12_putDecimal_100 x0 x1 v_mmF m_95 (msU x1 0 + 1) (v_mF, 0) := ⟨_, rfl⟩
      have K_100_0 : ∀ (H : Heap) (locs : List Loc), va_P D vwCl (wX12_putDecimal cI cB a_mo a_mem a_mks a_mr a_cnt a_wd a_one a_two a_mmade a_mrest a_old v_thrown v_mask v_key v_wait v_problem v_code v_length v_cond v_masks v_addr v_mwanted v_wrong v_after v_calls v_oneB v_twoB g_100.1 v_mmF) H → va_D A (wX12_putDecimal cI cB a_mo a_mem a_mks a_mr a_cnt a_wd a_one a_two a_mmade a_mrest a_old v_thrown v_mask v_key v_wait v_problem v_code v_length v_cond v_masks v_addr v_mwanted v_wrong v_after v_calls v_oneB v_twoB g_100.1 v_mmF) → va_S A s.heap H locs → ∀ (ls : Array Slot), lv_has ls 11 [(0, .ref a_mo), (1, .int x0), (2, .int x1), (3, .int x2), (4, .int x3), (5, .int g_9.1), (6, .int g_9.2.1), (7, .int m_95), (8, .int g_100.2)] → W p l e rmX12_putDecimal s m ([.ref a_mo, .int x0, .int x1, .int x2, .int x3] : List Value).toArray below meth c H locs 0 0 (MQ below (qX12_putDecimal D cI cB a_mo a_mem a_mks a_mr a_cnt a_wd a_one a_two a_mmade a_mrest a_old v_thrown v_mask v_key v_wait v_problem v_code v_length v_cond v_masks v_addr v_mwanted v_wrong v_after v_calls v_oneB v_twoB v_mF v_mmF x0 x1 x2 x3 A) ([.ref a_mo, .int x0, .int x1, .int x2, .int x3] : List Value).toArray s 0 0 A) (F0 m 176 ls []) := by
        intro H locs hP hD hS ls hl
        refine lv_iload hx hb dX12_putDecimal_176 (lv_at hl 5 rfl) ?_
        have hf9 : (g_9.1, g_100.1) = fX12_putDecimal x0 x1 x2 x3 v_mF v_mmF := by simp only [fX12_putDecimal, ← eg_9, ← em_95, ← eg_100]
        exact W.zret hx hb hr (zb_narrow (by with_reducible assumption)) (fun t9 ht9 hW9 => ⟨⟨g_9.1, g_100.1, rfl, ⟨by rw [← hf9], by rw [← hf9]⟩, ⟨by rw [ht9]; exact hP, va_K.moved hW9.alike hK, hD⟩⟩, hS.F ht9⟩) hS.2.2 dX12_putDecimal_178
      have lp_100 : ∀ (n9 : Nat) (w_100 : ((Nat → Int32) × Int32)), msU x1 w_100.2 < n9 → 0 ≤ w_100.2 → LX12_putDecimal_100 x0 x1 v_mmF m_95 n9 w_100 = g_100 → ∀ (H : Heap) (locs : List Loc), va_P D vwCl (wX12_putDecimal cI cB a_mo a_mem a_mks a_mr a_cnt a_wd a_one a_two a_mmade a_mrest a_old v_thrown v_mask v_key v_wait v_problem v_code v_length v_cond v_masks v_addr v_mwanted v_wrong v_after v_calls v_oneB v_twoB w_100.1 v_mmF) H → va_D A (wX12_putDecimal cI cB a_mo a_mem a_mks a_mr a_cnt a_wd a_one a_two a_mmade a_mrest a_old v_thrown v_mask v_key v_wait v_problem v_code v_length v_cond v_masks v_addr v_mwanted v_wrong v_after v_calls v_oneB v_twoB w_100.1 v_mmF) → va_S A s.heap H locs → ∀ (ls : Array Slot), lv_has ls 11 [(0, .ref a_mo), (1, .int x0), (2, .int x1), (3, .int x2), (4, .int x3), (5, .int g_9.1), (6, .int g_9.2.1), (7, .int m_95), (8, .int w_100.2)] → W p l e rmX12_putDecimal s m ([.ref a_mo, .int x0, .int x1, .int x2, .int x3] : List Value).toArray below meth c H locs 0 0 (MQ below (qX12_putDecimal D cI cB a_mo a_mem a_mks a_mr a_cnt a_wd a_one a_two a_mmade a_mrest a_old v_thrown v_mask v_key v_wait v_problem v_code v_length v_cond v_masks v_addr v_mwanted v_wrong v_after v_calls v_oneB v_twoB v_mF v_mmF x0 x1 x2 x3 A) ([.ref a_mo, .int x0, .int x1, .int x2, .int x3] : List Value).toArray s 0 0 A) (F0 m 100 ls []) := by
        intro n9
        induction n9 with
        | zero => intro w_100 hm9; exact absurd hm9 (Nat.not_lt_zero _)
        | succ n9 ih =>
          intro w_100 hm9 hI9 hL9 H locs hP hD hS ls hl
          have hI_100 := hI9
          refine lv_iload hx hb dX12_putDecimal_100 (lv_at hl 8 rfl) ?_
          refine lv_iload_n hx hb dX12_putDecimal_102 rfl (lv_at hl 2 rfl) ?_
          refine lv_icmp_ge (tgt := 176) hx hb dX12_putDecimal_103 (by decide) (fun c_103 => ?_) (fun c_103 => ?_)
          · skip
            have hg9 : (w_100.1, w_100.2) = g_100 := by rw [← hL9]; simp only [LX12_putDecimal_100]; (try simp only [if_pos c_103])
            subst hg9
            exact K_100_0 _ _ hP hD hS ls (lv_sub hl [0, 1, 2, 3, 4, 5, 6, 7, 8] rfl)
          · skip
            refine lv_aload_n hx hb dX12_putDecimal_106 rfl (lv_at hl 0 rfl) ?_
            refine va_get (D := D) (ci := 12) (v := .ref a_mmade) (C := RX12) (T := TX12) (N := 26) hx hb hts in_X12 hown hK hP 0 rfl rfl 23 (by decide) q_0 (fun _ h9 => h9) rfl dX12_putDecimal_107 ?_
            refine lv_iconst (v := 2) hx hb dX12_putDecimal_110 (by decide) ?_
            refine lv_iload hx hb dX12_putDecimal_111 (lv_at hl 8 rfl) ?_
            refine lv_imul hx hb dX12_putDecimal_113 ?_
            refine va_iald hx hb hK hP 2 0 rfl rfl (pd_a hn hI9 c_103) dX12_putDecimal_114 ?_
            refine lv_topi (fun x_115 ex_115 => ?_)
            refine lv_istore (lv' := [(9, .int x_115), (0, .ref a_mo), (1, .int x0), (2, .int x1), (3, .int x2), (4, .int x3), (5, .int g_9.1), (6, .int g_9.2.1), (7, .int m_95), (8, .int w_100.2)]) hx hb dX12_putDecimal_115 hl (by decide) rfl (fun ls hl => ?_)
            refine lv_iload hx hb dX12_putDecimal_117 (lv_at hl 9 rfl) ?_
            have J_148 : ∀ (m_148 : Int32), m_148 = (if w_100.2 = 0 then (if m_95 = 0 then (12) else (13)) else ((v_mmF (((2 * w_100.2) - 1) : Int32).toNatClampNeg))) → ∀ (H : Heap) (locs : List Loc), va_P D vwCl (wX12_putDecimal cI cB a_mo a_mem a_mks a_mr a_cnt a_wd a_one a_two a_mmade a_mrest a_old v_thrown v_mask v_key v_wait v_problem v_code v_length v_cond v_masks v_addr v_mwanted v_wrong v_after v_calls v_oneB v_twoB w_100.1 v_mmF) H → va_D A (wX12_putDecimal cI cB a_mo a_mem a_mks a_mr a_cnt a_wd a_one a_two a_mmade a_mrest a_old v_thrown v_mask v_key v_wait v_problem v_code v_length v_cond v_masks v_addr v_mwanted v_wrong v_after v_calls v_oneB v_twoB w_100.1 v_mmF) → va_S A s.heap H locs → ∀ (ls : Array Slot), lv_has ls 11 [(0, .ref a_mo), (1, .int x0), (2, .int x1), (3, .int x2), (4, .int x3), (5, .int g_9.1), (6, .int g_9.2.1), (7, .int m_95), (8, .int w_100.2), (9, .int x_115)] → W p l e rmX12_putDecimal s m ([.ref a_mo, .int x0, .int x1, .int x2, .int x3] : List Value).toArray below meth c H locs 0 0 (MQ below (qX12_putDecimal D cI cB a_mo a_mem a_mks a_mr a_cnt a_wd a_one a_two a_mmade a_mrest a_old v_thrown v_mask v_key v_wait v_problem v_code v_length v_cond v_masks v_addr v_mwanted v_wrong v_after v_calls v_oneB v_twoB v_mF v_mmF x0 x1 x2 x3 A) ([.ref a_mo, .int x0, .int x1, .int x2, .int x3] : List Value).toArray s 0 0 A) (F0 m 148 ls [.int m_148]) := by
              intro m_148 em_148 H locs hP hD hS ls hl
              try dsimp only at em_148
              refine lv_istore (lv' := [(10, .int m_148), (0, .ref a_mo), (1, .int x0), (2, .int x1), (3, .int x2), (4, .int x3), (5, .int g_9.1), (6, .int g_9.2.1), (7, .int m_95), (8, .int w_100.2), (9, .int x_115)]) hx hb dX12_putDecimal_148 hl (by decide) rfl (fun ls hl => ?_)
              refine lv_aload_n hx hb dX12_putDecimal_150 rfl (lv_at hl 1 rfl) ?_
              refine va_get (D := D) (ci := 12) (v := .ref a_mem) (C := RX12) (T := TX12) (N := 26) hx hb hts in_X12 hown hK hP 0 rfl rfl 1 (by decide) q_1 (fun _ h9 => h9) rfl dX12_putDecimal_151 ?_
              refine lv_iload_n hx hb dX12_putDecimal_154 rfl (lv_at hl 2 rfl) ?_
              refine lv_iload_n hx hb dX12_putDecimal_155 rfl (lv_at hl 3 rfl) ?_
              refine lv_iadd hx hb dX12_putDecimal_156 ?_
              refine lv_iconst (v := 1) hx hb dX12_putDecimal_157 (by decide) ?_
              refine lv_isub hx hb dX12_putDecimal_158 ?_
              refine lv_iload hx hb dX12_putDecimal_159 (lv_at hl 9 rfl) ?_
              refine lv_isub hx hb dX12_putDecimal_161 ?_
              refine lv_iload hx hb dX12_putDecimal_162 (lv_at hl 10 rfl) ?_
              refine lv_iconst (v := 4) hx hb dX12_putDecimal_164 (by decide) ?_
              refine lv_ishl hx hb dX12_putDecimal_165 ?_
              refine lv_iload hx hb dX12_putDecimal_166 (lv_at hl 0 rfl) ?_
              refine lv_ior hx hb dX12_putDecimal_168 ?_
              refine va_iast hx hb hK hP hD hS 1 0 rfl rfl (bk_in ha hI9 c_103) dX12_putDecimal_169 (fun H locs hP hD hS => ?_)
              obtain ⟨f_169, ef_169⟩ : ∃ z : Nat → Int32, z = upd w_100.1 ((((x0 + x1) - 1) - w_100.2) : Int32).toNatClampNeg (((x_115 <<< (4 &&& 31)) ||| m_148)) := ⟨_, rfl⟩
              have hP : va_P D vwCl (wX12_putDecimal cI cB a_mo a_mem a_mks a_mr a_cnt a_wd a_one a_two a_mmade a_mrest a_old v_thrown v_mask v_key v_wait v_problem v_code v_length v_cond v_masks v_addr v_mwanted v_wrong v_after v_calls v_oneB v_twoB (upd w_100.1 ((((x0 + x1) - 1) - w_100.2) : Int32).toNatClampNeg (((x_115 <<< (4 &&& 31)) ||| m_148))) v_mmF) H := hP
              have hD : va_D A (wX12_putDecimal cI cB a_mo a_mem a_mks a_mr a_cnt a_wd a_one a_two a_mmade a_mrest a_old v_thrown v_mask v_key v_wait v_problem v_code v_length v_cond v_masks v_addr v_mwanted v_wrong v_after v_calls v_oneB v_twoB (upd w_100.1 ((((x0 + x1) - 1) - w_100.2) : Int32).toNatClampNeg (((x_115 <<< (4 &&& 31)) ||| m_148))) v_mmF) := hD
              rw [← ef_169] at hP hD
              obtain ⟨x_170, ex_170⟩ : ∃ z : Int32, z = w_100.2 + 1 := ⟨_, rfl⟩
              refine lv_iinc (v := x_170) (lv' := [(8, .int x_170), (10, .int m_148), (0, .ref a_mo), (1, .int x0), (2, .int x1), (3, .int x2), (4, .int x3), (5, .int g_9.1), (6, .int g_9.2.1), (7, .int m_95), (9, .int x_115)]) hx hb dX12_putDecimal_170 hl (k := 9) rfl (by rw [ex_170]; rfl) (by decide) rfl (fun ls hl => ?_)
              refine lv_goto (tgt := 100) hx hb dX12_putDecimal_173 (by decide) ?_
              exact ih (f_169, x_170) (by subst ex_170; subst ef_169; subst em_148; subst ex_115;  exact Nat.lt_of_lt_of_le (ms_up c_103) (Nat.le_of_lt_succ hm9)) (by subst ex_170; subst ef_169; subst em_148; subst ex_115;  exact nn_up hI9 c_103) (by rw [← hL9]; subst ex_170; subst ef_169; subst ex_115; simp only [LX12_putDecimal_100, ← em_148]; (try simp only [if_neg c_103])) _ _ hP hD hS ls (lv_sub hl [2, 3, 4, 5, 6, 7, 8, 9, 0] rfl)
            refine lv_if_ne (tgt := 137) hx hb dX12_putDecimal_119 (by decide) (fun c_119 => ?_) (fun c_119 => ?_)
            · skip
              refine lv_aload_n hx hb dX12_putDecimal_137 rfl (lv_at hl 1 rfl) ?_
              refine va_get (D := D) (ci := 12) (v := .ref a_mmade) (C := RX12) (T := TX12) (N := 26) hx hb hts in_X12 hown hK hP 0 rfl rfl 23 (by decide) q_0 (fun _ h9 => h9) rfl dX12_putDecimal_138 ?_
              refine lv_iconst (v := 2) hx hb dX12_putDecimal_141 (by decide) ?_
              refine lv_iload hx hb dX12_putDecimal_142 (lv_at hl 9 rfl) ?_
              refine lv_imul hx hb dX12_putDecimal_144 ?_
              refine lv_iconst (v := 1) hx hb dX12_putDecimal_145 (by decide) ?_
              refine lv_isub hx hb dX12_putDecimal_146 ?_
              refine va_iald hx hb hK hP 2 0 rfl rfl (pd_b hn hI9 c_103 c_119) dX12_putDecimal_147 ?_
              exact J_148 (v_mmF (((2 * w_100.2) - 1) : Int32).toNatClampNeg) (by (try simp only [if_neg c_119])) _ _ hP hD hS ls (lv_sub hl [1, 2, 3, 4, 5, 6, 7, 8, 9, 0] rfl)
            · skip
              refine lv_iload hx hb dX12_putDecimal_122 (lv_at hl 8 rfl) ?_
              refine lv_if_eq (tgt := 132) hx hb dX12_putDecimal_124 (by decide) (fun c_124 => ?_) (fun c_124 => ?_)
              · skip
                refine lv_bipush (v := 12) hx hb dX12_putDecimal_132 (by decide) ?_
                refine lv_goto (tgt := 148) hx hb dX12_putDecimal_134 (by decide) ?_
                exact J_148 12 (by (try simp only [if_pos c_119, if_pos c_124])) _ _ hP hD hS ls (lv_sub hl [1, 2, 3, 4, 5, 6, 7, 8, 9, 0] rfl)
              · skip
                refine lv_bipush (v := 13) hx hb dX12_putDecimal_127 (by decide) ?_
                refine lv_goto (tgt := 148) hx hb dX12_putDecimal_129 (by decide) ?_
                exact J_148 13 (by (try simp only [if_pos c_119, if_neg c_124])) _ _ hP hD hS ls (lv_sub hl [1, 2, 3, 4, 5, 6, 7, 8, 9, 0] rfl)
      exact lp_100 (msU x1 0 + 1) (v_mF, 0) (Nat.lt_succ_self _) (by show (0 : Int32) ≤ 0; decide) eg_100.symm _ _ hP hD hS ls (lv_sub hl [2, 3, 4, 5, 6, 7, 8, 1, 0] rfl)
    refine lv_if_eq (tgt := 94) hx hb dX12_putDecimal_77 (by decide) (fun c_77 => ?_) (fun c_77 => ?_)
    · skip
      refine lv_iconst (v := 0) hx hb dX12_putDecimal_94 (by decide) ?_
      exact J_95 0 (by (try simp only [if_pos c_77])) _ _ hP hD hS ls (lv_sub hl [0, 1, 2, 3, 4, 5, 6, 7] rfl)
    · skip
      refine lv_iload hx hb dX12_putDecimal_80 (lv_at hl 6 rfl) ?_
      refine lv_if_eq (tgt := 90) hx hb dX12_putDecimal_82 (by decide) (fun c_82 => ?_) (fun c_82 => ?_)
      · skip
        refine lv_iconst (v := 1) hx hb dX12_putDecimal_90 (by decide) ?_
        refine lv_goto (tgt := 95) hx hb dX12_putDecimal_91 (by decide) ?_
        exact J_95 1 (by (try simp only [if_neg c_77, if_pos c_82])) _ _ hP hD hS ls (lv_sub hl [0, 1, 2, 3, 4, 5, 6, 7] rfl)
      · skip
        refine lv_iload hx hb dX12_putDecimal_85 (lv_at hl 4 rfl) ?_
        refine lv_if_eq (tgt := 94) hx hb dX12_putDecimal_87 (by decide) (fun c_87 => ?_) (fun c_87 => ?_)
        · skip
          refine lv_iconst (v := 0) hx hb dX12_putDecimal_94 (by decide) ?_
          exact J_95 0 (by (try simp only [if_neg c_77, if_neg c_82, if_pos c_87])) _ _ hP hD hS ls (lv_sub hl [0, 1, 2, 3, 4, 5, 6, 7] rfl)
        · skip
          refine lv_iconst (v := 1) hx hb dX12_putDecimal_90 (by decide) ?_
          refine lv_goto (tgt := 95) hx hb dX12_putDecimal_91 (by decide) ?_
          exact J_95 1 (by (try simp only [if_neg c_77, if_neg c_82, if_neg c_87])) _ _ hP hD hS ls (lv_sub hl [0, 1, 2, 3, 4, 5, 6, 7] rfl)
  have lp_9 : ∀ (n9 : Nat) (w_9 : (Int32 × Int32 × Int32)), msU 80 w_9.2.2 < n9 → 0 ≤ w_9.2.2 → LX12_putDecimal_9 x1 v_mmF n9 w_9 = g_9 → ∀ (H : Heap) (locs : List Loc), va_P D vwCl (wX12_putDecimal cI cB a_mo a_mem a_mks a_mr a_cnt a_wd a_one a_two a_mmade a_mrest a_old v_thrown v_mask v_key v_wait v_problem v_code v_length v_cond v_masks v_addr v_mwanted v_wrong v_after v_calls v_oneB v_twoB v_mF v_mmF) H → va_D A (wX12_putDecimal cI cB a_mo a_mem a_mks a_mr a_cnt a_wd a_one a_two a_mmade a_mrest a_old v_thrown v_mask v_key v_wait v_problem v_code v_length v_cond v_masks v_addr v_mwanted v_wrong v_after v_calls v_oneB v_twoB v_mF v_mmF) → va_S A s.heap H locs → ∀ (ls : Array Slot), lv_has ls 11 [(0, .ref a_mo), (1, .int x0), (2, .int x1), (3, .int x2), (4, .int x3), (5, .int w_9.1), (6, .int w_9.2.1), (7, .int w_9.2.2)] → W p l e rmX12_putDecimal s m ([.ref a_mo, .int x0, .int x1, .int x2, .int x3] : List Value).toArray below meth c H locs 0 0 (MQ below (qX12_putDecimal D cI cB a_mo a_mem a_mks a_mr a_cnt a_wd a_one a_two a_mmade a_mrest a_old v_thrown v_mask v_key v_wait v_problem v_code v_length v_cond v_masks v_addr v_mwanted v_wrong v_after v_calls v_oneB v_twoB v_mF v_mmF x0 x1 x2 x3 A) ([.ref a_mo, .int x0, .int x1, .int x2, .int x3] : List Value).toArray s 0 0 A) (F0 m 9 ls []) := by
    intro n9
    induction n9 with
    | zero => intro w_9 hm9; exact absurd hm9 (Nat.not_lt_zero _)
    | succ n9 ih =>
      intro w_9 hm9 hI9 hL9 H locs hP hD hS ls hl
      have hI_9 := hI9
      refine lv_iload hx hb dX12_putDecimal_9 (lv_at hl 7 rfl) ?_
      refine lv_bipush (v := 80) hx hb dX12_putDecimal_11 (by decide) ?_
      refine lv_icmp_ge (tgt := 76) hx hb dX12_putDecimal_13 (by decide) (fun c_13 => ?_) (fun c_13 => ?_)
      · skip
        have hg9 : (w_9.1, w_9.2.1, w_9.2.2) = g_9 := by rw [← hL9]; simp only [LX12_putDecimal_9]; (try simp only [if_pos c_13])
        subst hg9
        exact K_9_0 _ _ hP hD hS ls (lv_sub hl [0, 1, 2, 3, 4, 5, 6, 7] rfl)
      · skip
        refine lv_iload hx hb dX12_putDecimal_16 (lv_at hl 5 rfl) ?_
        have J_46 : ∀ (m_46 : Int32), m_46 = (if w_9.1 = 0 then (if w_9.2.2 < ((2 * x1) - 1) then (0) else (if (v_mmF (w_9.2.2 : Int32).toNatClampNeg) = 0 then (0) else (1))) else (1)) → ∀ (H : Heap) (locs : List Loc), va_P D vwCl (wX12_putDecimal cI cB a_mo a_mem a_mks a_mr a_cnt a_wd a_one a_two a_mmade a_mrest a_old v_thrown v_mask v_key v_wait v_problem v_code v_length v_cond v_masks v_addr v_mwanted v_wrong v_after v_calls v_oneB v_twoB v_mF v_mmF) H → va_D A (wX12_putDecimal cI cB a_mo a_mem a_mks a_mr a_cnt a_wd a_one a_two a_mmade a_mrest a_old v_thrown v_mask v_key v_wait v_problem v_code v_length v_cond v_masks v_addr v_mwanted v_wrong v_after v_calls v_oneB v_twoB v_mF v_mmF) → va_S A s.heap H locs → ∀ (ls : Array Slot), lv_has ls 11 [(0, .ref a_mo), (1, .int x0), (2, .int x1), (3, .int x2), (4, .int x3), (5, .int w_9.1), (6, .int w_9.2.1), (7, .int w_9.2.2)] → W p l e rmX12_putDecimal s m ([.ref a_mo, .int x0, .int x1, .int x2, .int x3] : List Value).toArray below meth c H locs 0 0 (MQ below (qX12_putDecimal D cI cB a_mo a_mem a_mks a_mr a_cnt a_wd a_one a_two a_mmade a_mrest a_old v_thrown v_mask v_key v_wait v_problem v_code v_length v_cond v_masks v_addr v_mwanted v_wrong v_after v_calls v_oneB v_twoB v_mF v_mmF x0 x1 x2 x3 A) ([.ref a_mo, .int x0, .int x1, .int x2, .int x3] : List Value).toArray s 0 0 A) (F0 m 46 ls [.int m_46]) := by
          intro m_46 em_46 H locs hP hD hS ls hl
          try dsimp only at em_46
          have zm_46_0 : m_46 = 0 ∨ m_46 = 1 := by rw [em_46]; (try dsimp only); (repeat' split) <;> first | exact Or.inl rfl | exact Or.inr rfl
          refine lv_istore (lv' := [(5, .int m_46), (0, .ref a_mo), (1, .int x0), (2, .int x1), (3, .int x2), (4, .int x3), (6, .int w_9.2.1), (7, .int w_9.2.2)]) hx hb dX12_putDecimal_46 hl (by decide) rfl (fun ls hl => ?_)
          refine lv_iload hx hb dX12_putDecimal_48 (lv_at hl 6 rfl) ?_
          have J_68 : ∀ (m_68 : Int32), m_68 = (if w_9.2.1 = 0 then (0) else (if (v_mmF (w_9.2.2 : Int32).toNatClampNeg) = 0 then (1) else (0))) → ∀ (H : Heap) (locs : List Loc), va_P D vwCl (wX12_putDecimal cI cB a_mo a_mem a_mks a_mr a_cnt a_wd a_one a_two a_mmade a_mrest a_old v_thrown v_mask v_key v_wait v_problem v_code v_length v_cond v_masks v_addr v_mwanted v_wrong v_after v_calls v_oneB v_twoB v_mF v_mmF) H → va_D A (wX12_putDecimal cI cB a_mo a_mem a_mks a_mr a_cnt a_wd a_one a_two a_mmade a_mrest a_old v_thrown v_mask v_key v_wait v_problem v_code v_length v_cond v_masks v_addr v_mwanted v_wrong v_after v_calls v_oneB v_twoB v_mF v_mmF) → va_S A s.heap H locs → ∀ (ls : Array Slot), lv_has ls 11 [(0, .ref a_mo), (1, .int x0), (2, .int x1), (3, .int x2), (4, .int x3), (5, .int m_46), (6, .int w_9.2.1), (7, .int w_9.2.2)] → W p l e rmX12_putDecimal s m ([.ref a_mo, .int x0, .int x1, .int x2, .int x3] : List Value).toArray below meth c H locs 0 0 (MQ below (qX12_putDecimal D cI cB a_mo a_mem a_mks a_mr a_cnt a_wd a_one a_two a_mmade a_mrest a_old v_thrown v_mask v_key v_wait v_problem v_code v_length v_cond v_masks v_addr v_mwanted v_wrong v_after v_calls v_oneB v_twoB v_mF v_mmF x0 x1 x2 x3 A) ([.ref a_mo, .int x0, .int x1, .int x2, .int x3] : List Value).toArray s 0 0 A) (F0 m 68 ls [.int m_68]) := by
            intro m_68 em_68 H locs hP hD hS ls hl
            try dsimp only at em_68
            have zm_68_0 : m_68 = 0 ∨ m_68 = 1 := by rw [em_68]; (try dsimp only); (repeat' split) <;> first | exact Or.inl rfl | exact Or.inr rfl
            refine lv_istore (lv' := [(6, .int m_68), (0, .ref a_mo), (1, .int x0), (2, .int x1), (3, .int x2), (4, .int x3), (5, .int m_46), (7, .int w_9.2.2)]) hx hb dX12_putDecimal_68 hl (by decide) rfl (fun ls hl => ?_)
            obtain ⟨x_70, ex_70⟩ : ∃ z : Int32, z = w_9.2.2 + 1 := ⟨_, rfl⟩
            refine lv_iinc (v := x_70) (lv' := [(7, .int x_70), (6, .int m_68), (0, .ref a_mo), (1, .int x0), (2, .int x1), (3, .int x2), (4, .int x3), (5, .int m_46)]) hx hb dX12_putDecimal_70 hl (k := 7) rfl (by rw [ex_70]; rfl) (by decide) rfl (fun ls hl => ?_)
            refine lv_goto (tgt := 9) hx hb dX12_putDecimal_73 (by decide) ?_
            exact ih (m_46, m_68, x_70) (by subst ex_70; subst em_68; subst em_46;  exact Nat.lt_of_lt_of_le (ms_up c_13) (Nat.le_of_lt_succ hm9)) (by subst ex_70; subst em_68; subst em_46;  exact nn_up hI9 c_13) (by rw [← hL9]; subst ex_70; simp only [LX12_putDecimal_9, ← em_46, ← em_68]; (try simp only [if_neg c_13])) _ _ hP hD hS ls (lv_sub hl [2, 3, 4, 5, 6, 7, 1, 0] rfl)
          refine lv_if_eq (tgt := 67) hx hb dX12_putDecimal_50 (by decide) (fun c_50 => ?_) (fun c_50 => ?_)
          · skip
            refine lv_iconst (v := 0) hx hb dX12_putDecimal_67 (by decide) ?_
            exact J_68 0 (by (try simp only [if_pos c_50])) _ _ hP hD hS ls (lv_sub hl [1, 2, 3, 4, 5, 0, 6, 7] rfl)
          · skip
            refine lv_aload_n hx hb dX12_putDecimal_53 rfl (lv_at hl 1 rfl) ?_
            refine va_get (D := D) (ci := 12) (v := .ref a_mmade) (C := RX12) (T := TX12) (N := 26) hx hb hts in_X12 hown hK hP 0 rfl rfl 23 (by decide) q_0 (fun _ h9 => h9) rfl dX12_putDecimal_54 ?_
            refine lv_iload hx hb dX12_putDecimal_57 (lv_at hl 7 rfl) ?_
            refine va_iald hx hb hK hP 2 0 rfl rfl (by first | with_reducible assumption | exact vin_of (b := 80) (by decide) (by with_reducible assumption) (by with_reducible assumption) | exact vin_of (b := 80) (by decide) (Int32.not_lt.mp (by with_reducible assumption)) (by with_reducible assumption) | exact vin_dn (by decide) (by with_reducible assumption) hI9) dX12_putDecimal_59 ?_
            refine lv_if_ne (tgt := 67) hx hb dX12_putDecimal_60 (by decide) (fun c_60 => ?_) (fun c_60 => ?_)
            · skip
              refine lv_iconst (v := 0) hx hb dX12_putDecimal_67 (by decide) ?_
              exact J_68 0 (by (try simp only [if_neg c_50, if_neg c_60])) _ _ hP hD hS ls (lv_sub hl [1, 2, 3, 4, 5, 0, 6, 7] rfl)
            · skip
              refine lv_iconst (v := 1) hx hb dX12_putDecimal_63 (by decide) ?_
              refine lv_goto (tgt := 68) hx hb dX12_putDecimal_64 (by decide) ?_
              exact J_68 1 (by (try simp only [if_neg c_50, if_pos c_60])) _ _ hP hD hS ls (lv_sub hl [1, 2, 3, 4, 5, 0, 6, 7] rfl)
        refine lv_if_ne (tgt := 41) hx hb dX12_putDecimal_18 (by decide) (fun c_18 => ?_) (fun c_18 => ?_)
        · skip
          refine lv_iconst (v := 1) hx hb dX12_putDecimal_41 (by decide) ?_
          refine lv_goto (tgt := 46) hx hb dX12_putDecimal_42 (by decide) ?_
          exact J_46 1 (by (try simp only [if_neg c_18])) _ _ hP hD hS ls (lv_sub hl [0, 1, 2, 3, 4, 5, 6, 7] rfl)
        · skip
          refine lv_iload hx hb dX12_putDecimal_21 (lv_at hl 7 rfl) ?_
          refine lv_iconst (v := 2) hx hb dX12_putDecimal_23 (by decide) ?_
          refine lv_iload_n hx hb dX12_putDecimal_24 rfl (lv_at hl 2 rfl) ?_
          refine lv_imul hx hb dX12_putDecimal_25 ?_
          refine lv_iconst (v := 1) hx hb dX12_putDecimal_26 (by decide) ?_
          refine lv_isub hx hb dX12_putDecimal_27 ?_
          refine lv_icmp_lt (tgt := 45) hx hb dX12_putDecimal_28 (by decide) (fun c_28 => ?_) (fun c_28 => ?_)
          · skip
            refine lv_iconst (v := 0) hx hb dX12_putDecimal_45 (by decide) ?_
            exact J_46 0 (by (try simp only [if_pos c_18, if_pos c_28])) _ _ hP hD hS ls (lv_sub hl [0, 1, 2, 3, 4, 5, 6, 7] rfl)
          · skip
            refine lv_aload_n hx hb dX12_putDecimal_31 rfl (lv_at hl 0 rfl) ?_
            refine va_get (D := D) (ci := 12) (v := .ref a_mmade) (C := RX12) (T := TX12) (N := 26) hx hb hts in_X12 hown hK hP 0 rfl rfl 23 (by decide) q_0 (fun _ h9 => h9) rfl dX12_putDecimal_32 ?_
            refine lv_iload hx hb dX12_putDecimal_35 (lv_at hl 7 rfl) ?_
            refine va_iald hx hb hK hP 2 0 rfl rfl (by first | with_reducible assumption | exact vin_of (b := 80) (by decide) (by with_reducible assumption) (by with_reducible assumption) | exact vin_of (b := 80) (by decide) (Int32.not_lt.mp (by with_reducible assumption)) (by with_reducible assumption) | exact vin_dn (by decide) (by with_reducible assumption) hI9) dX12_putDecimal_37 ?_
            refine lv_if_eq (tgt := 45) hx hb dX12_putDecimal_38 (by decide) (fun c_38 => ?_) (fun c_38 => ?_)
            · skip
              refine lv_iconst (v := 0) hx hb dX12_putDecimal_45 (by decide) ?_
              exact J_46 0 (by (try simp only [if_pos c_18, if_neg c_28, if_pos c_38])) _ _ hP hD hS ls (lv_sub hl [0, 1, 2, 3, 4, 5, 6, 7] rfl)
            · skip
              refine lv_iconst (v := 1) hx hb dX12_putDecimal_41 (by decide) ?_
              refine lv_goto (tgt := 46) hx hb dX12_putDecimal_42 (by decide) ?_
              exact J_46 1 (by (try simp only [if_pos c_18, if_neg c_28, if_neg c_38])) _ _ hP hD hS ls (lv_sub hl [0, 1, 2, 3, 4, 5, 6, 7] rfl)
  exact lp_9 (msU 80 0 + 1) (0, 1, 0) (Nat.lt_succ_self _) (by show (0 : Int32) ≤ 0; decide) eg_9.symm _ _ hP hD hS ls (lv_sub hl [3, 4, 5, 6, 7, 2, 1, 0] rfl)
theorem hdX12_putDecimal : yX12_putDecimal.cls = RX12 ∧ yX12_putDecimal.cls ≠ "java/lang/invoke/MethodHandle" ∧ yX12_putDecimal.cls ≠ "java/lang/invoke/VarHandle" ∧ (parseMethodDescriptor yX12_putDecimal.desc).map (fun d => d.parameters.length) = some 4 := by decide +kernel
noncomputable def fX12_afterDecimal (x0 : Int32) (x1 : Int32) (x2 : Int32) (v_cond : Int32) (v_masks : Int32) (v_after : Int32) (v_mF : (Nat → Int32)) (v_mmF : (Nat → Int32)) : (Int32 × Int32 × (Nat → Int32)) :=
  let r_4 := fX12_isZero v_mmF
  let p_14 := fX12_putDecimal x0 x1 x2 0 v_mF v_mmF
  let r_14 := p_14.1
  let u_14 := p_14.2
  let m_47 : Int32 := (if r_14 = 0 then (if r_4 = 0 then (if x2 = 0 then (2) else (1)) else (0)) else (3))
  if r_14 = 0 then ((m_47, v_after, u_14)) else (if (v_masks &&& 4) = 0 then ((m_47, v_after, u_14)) else ((m_47, 10, u_14)))
abbrev wX12_afterDecimal (cI cB : ClassId) (a_mo a_mem a_mks a_mr a_cnt a_wd a_one a_two a_mmade a_mrest a_old : Nat) (v_thrown : Int32) (v_mask : Int32) (v_key : Int32) (v_wait : Int32) (v_problem : Int32) (v_code : Int32) (v_length : Int32) (v_cond : Int32) (v_masks : Int32) (v_addr : Int32) (v_mwanted : Int32) (v_wrong : Int32) (v_after : Int32) (v_calls : Int32) (v_oneB : Int32) (v_twoB : Int32) (v_mF : (Nat → Int32)) (v_mmF : (Nat → Int32)) : va_W := [(a_mo, .inr (12, [.int v_thrown, .ref a_mem, .ref a_mks, .ref a_mr, .int v_mask, .int v_key, .int v_wait, .int v_problem, .int v_code, .int v_length, .int v_cond, .int v_masks, .int v_addr, .int v_mwanted, .ref a_cnt, .ref a_wd, .int v_wrong, .int v_after, .int v_calls, .ref a_one, .int v_oneB, .ref a_two, .int v_twoB, .ref a_mmade, .ref a_mrest, .ref a_old])), (a_mem, .inl (cI, 8192, .inl v_mF)), (a_mmade, .inl (cI, 80, .inl v_mmF))]
abbrev rmX12_afterDecimal : Room := { frames := 1, cells := 0, slots := 0, locals := 30 }
abbrev qX12_afterDecimal (D : va_G) (cI cB : ClassId) (a_mo a_mem a_mks a_mr a_cnt a_wd a_one a_two a_mmade a_mrest a_old : Nat) (v_thrown : Int32) (v_mask : Int32) (v_key : Int32) (v_wait : Int32) (v_problem : Int32) (v_code : Int32) (v_length : Int32) (v_cond : Int32) (v_masks : Int32) (v_addr : Int32) (v_mwanted : Int32) (v_wrong : Int32) (v_after : Int32) (v_calls : Int32) (v_oneB : Int32) (v_twoB : Int32) (v_mF : (Nat → Int32)) (v_mmF : (Nat → Int32)) (x0 : Int32) (x1 : Int32) (x2 : Int32) : (Nat → Prop) → Array Value → State → Outcome → State → Prop := fun A9 => va_Qv (fun (u9 : (Int32 × Int32 × (Nat → Int32))) => u9 = fX12_afterDecimal x0 x1 x2 v_cond v_masks v_after v_mF v_mmF) (fun u9 t9 => atW D (TYS cI cB) A9 (wX12_afterDecimal cI cB a_mo a_mem a_mks a_mr a_cnt a_wd a_one a_two a_mmade a_mrest a_old v_thrown v_mask v_key v_wait v_problem v_code v_length u9.1 v_masks v_addr v_mwanted v_wrong u9.2.1 v_calls v_oneB v_twoB u9.2.2 v_mmF) t9) A9
set_option maxHeartbeats 4000000 in
set_option maxRecDepth 100000 in
theorem kX12_afterDecimal (l : Launch) (D : va_G) (cI cB : ClassId) (a_mo a_mem a_mks a_mr a_cnt a_wd a_one a_two a_mmade a_mrest a_old : Nat) (sz : Nat) (v_thrown : Int32) (v_mask : Int32) (v_key : Int32) (v_wait : Int32) (v_problem : Int32) (v_code : Int32) (v_length : Int32) (v_cond : Int32) (v_masks : Int32) (v_addr : Int32) (v_mwanted : Int32) (v_wrong : Int32) (v_after : Int32) (v_calls : Int32) (v_oneB : Int32) (v_twoB : Int32) (v_mF : (Nat → Int32)) (v_mmF : (Nat → Int32)) (x0 : Int32) (x1 : Int32) (x2 : Int32) (hn : 1 ≤ x1.toInt ∧ x1.toInt ≤ 16) (ha : inM x0 x1) : MetW l yX12_afterDecimal (WK yX12_afterDecimal cX12_afterDecimal 6 none) rmX12_afterDecimal D (TYS cI cB) (wX12_afterDecimal cI cB a_mo a_mem a_mks a_mr a_cnt a_wd a_one a_two a_mmade a_mrest a_old v_thrown v_mask v_key v_wait v_problem v_code v_length v_cond v_masks v_addr v_mwanted v_wrong v_after v_calls v_oneB v_twoB v_mF v_mmF) sz [.ref a_mo, .int x0, .int x1, .int x2] (qX12_afterDecimal D cI cB a_mo a_mem a_mks a_mr a_cnt a_wd a_one a_two a_mmade a_mrest a_old v_thrown v_mask v_key v_wait v_problem v_code v_length v_cond v_masks v_addr v_mwanted v_wrong v_after v_calls v_oneB v_twoB v_mF v_mmF x0 x1 x2) 0 0 := by
  refine met_std (by decide) rfl (Nat.le_of_ble_eq_true rfl) ?_
  intro p e s m below meth c A ls H hx hb hr hml hown hts hlocks hA hP hK hD hS hNW hl
  have hl : lv_has ls 6 [(0, .ref a_mo), (1, .int x0), (2, .int x1), (3, .int x2)] := hl
  have q_0 := hts _ (List.mem_cons_of_mem _ wd_784)
  have q_1 := hts _ (List.mem_cons_of_mem _ wd_792)
  have q_2 := hts _ (List.mem_cons_of_mem _ wd_793)
  have q_3 := hts _ (List.mem_cons_of_mem _ wd_848)
  refine lv_aload_n hx hb dX12_afterDecimal_0 rfl (lv_at hl 0 rfl) ?_
  refine va_get (D := D) (ci := 12) (v := .ref a_mmade) (C := RX12) (T := TX12) (N := 26) hx hb hts in_X12 hown hK hP 0 rfl rfl 23 (by decide) q_0 (fun _ h9 => h9) rfl dX12_afterDecimal_1 ?_
  have hPc : va_P D vwCl (wX12_isZero cI cB a_mmade v_mmF) H := hP.sub [2] rfl
  have hDc : va_D A (wX12_isZero cI cB a_mmade v_mmF) := hD.sub [2] (by decide) rfl
  have hFc := va_free (wc := (wX12_isZero cI cB a_mmade v_mmF)) hD hS hA [2] rfl
  refine va_calli (va_runS (As := [.ref a_mmade]) (rest := []) ⟨hx, hb, hml, hown, hts⟩ (kX12_isZero l D cI cB a_mmade H.size v_mmF ) (va_cwS 1 hts (gd_S wd_895 wd_896 wd_807 wd_891) rfl rfl rfl hdX12_isZero.2 ⟨Nat.le_of_ble_eq_true rfl, Nat.le_of_ble_eq_true rfl⟩) (preS_std hPc hK hDc hNW) rfl rfl hl.1 rfl (lv_room (Nat.le_of_ble_eq_true rfl)) dX12_afterDecimal_4 ⟨Nat.zero_le _, Nat.zero_le _⟩) hS (fun q _ h => hFc q h) hFc (fun r_4 u_4 t9 H1 locs ht9 hvm9 hw9 hB9 hz9 hk9 hS => ?_)
  have er_4 : r_4 = fX12_isZero v_mmF := hw9
  have zr_4 : r_4 = 0 ∨ r_4 = 1 := by rw [er_4]; exact zX12_isZero _
  obtain ⟨hP, hD⟩ := back_std (w1 := (wX12_isZero cI cB a_mmade v_mmF)) (w2 := (wX12_afterDecimal cI cB a_mo a_mem a_mks a_mr a_cnt a_wd a_one a_two a_mmade a_mrest a_old v_thrown v_mask v_key v_wait v_problem v_code v_length v_cond v_masks v_addr v_mwanted v_wrong v_after v_calls v_oneB v_twoB v_mF v_mmF)) (wr := [(a_mo, .inr (12, [.int v_thrown, .ref a_mem, .ref a_mks, .ref a_mr, .int v_mask, .int v_key, .int v_wait, .int v_problem, .int v_code, .int v_length, .int v_cond, .int v_masks, .int v_addr, .int v_mwanted, .ref a_cnt, .ref a_wd, .int v_wrong, .int v_after, .int v_calls, .ref a_one, .int v_oneB, .ref a_two, .int v_twoB, .ref a_mmade, .ref a_mrest, .ref a_old])), (a_mem, .inl (cI, 8192, .inl v_mF))]) hP hD [2] [0, 1] [0, 1, 2] rfl rfl (by decide) (by decide) hk9 hFc hB9 ht9 (by decide) rfl
  clear hB9 hk9 hz9 hvm9 ht9 hFc hPc hDc
  generalize H1 = H at hP hS ⊢
  refine lv_istore (lv' := [(4, .int r_4), (0, .ref a_mo), (1, .int x0), (2, .int x1), (3, .int x2)]) hx hb dX12_afterDecimal_7 hl (by decide) rfl (fun ls hl => ?_)
  refine lv_aload_n hx hb dX12_afterDecimal_9 rfl (lv_at hl 1 rfl) ?_
  refine lv_iload_n hx hb dX12_afterDecimal_10 rfl (lv_at hl 2 rfl) ?_
  refine lv_iload_n hx hb dX12_afterDecimal_11 rfl (lv_at hl 3 rfl) ?_
  refine lv_iload_n hx hb dX12_afterDecimal_12 rfl (lv_at hl 4 rfl) ?_
  refine lv_iconst (v := 0) hx hb dX12_afterDecimal_13 (by decide) ?_
  have hPc : va_P D vwCl (wX12_putDecimal cI cB a_mo a_mem a_mks a_mr a_cnt a_wd a_one a_two a_mmade a_mrest a_old v_thrown v_mask v_key v_wait v_problem v_code v_length v_cond v_masks v_addr v_mwanted v_wrong v_after v_calls v_oneB v_twoB v_mF v_mmF) H := hP.sub [0, 1, 2] rfl
  have hDc : va_D A (wX12_putDecimal cI cB a_mo a_mem a_mks a_mr a_cnt a_wd a_one a_two a_mmade a_mrest a_old v_thrown v_mask v_key v_wait v_problem v_code v_length v_cond v_masks v_addr v_mwanted v_wrong v_after v_calls v_oneB v_twoB v_mF v_mmF) := hD.sub [0, 1, 2] (by decide) rfl
  have hFc := va_free (wc := (wX12_putDecimal cI cB a_mo a_mem a_mks a_mr a_cnt a_wd a_one a_two a_mmade a_mrest a_old v_thrown v_mask v_key v_wait v_problem v_code v_length v_cond v_masks v_addr v_mwanted v_wrong v_after v_calls v_oneB v_twoB v_mF v_mmF)) hD hS hA [0, 1, 2] rfl
  refine va_calli (va_runV (As := [.int x0, .int x1, .int x2, .int 0]) (rest := []) ⟨hx, hb, hml, hown, hts⟩ (kX12_putDecimal l D cI cB a_mo a_mem a_mks a_mr a_cnt a_wd a_one a_two a_mmade a_mrest a_old H.size v_thrown v_mask v_key v_wait v_problem v_code v_length v_cond v_masks v_addr v_mwanted v_wrong v_after v_calls v_oneB v_twoB v_mF v_mmF x0 x1 x2 0 (by first | with_reducible assumption | decide | (unfold vp_in; decide)) (by first | with_reducible assumption | decide | (unfold vp_in; decide))) (cwV 4 hts (gd_V wd_897 wd_898 wd_899 wd_807 wd_893) rfl rfl rfl hdX12_putDecimal ⟨Nat.le_of_ble_eq_true rfl, Nat.le_of_ble_eq_true rfl⟩) (preV_std (ci := 12) (q0 := 0) hPc hK hDc hNW rfl rfl) rfl rfl hl.1 rfl (lv_room (Nat.le_of_ble_eq_true rfl)) dX12_afterDecimal_14 ⟨Nat.zero_le _, Nat.zero_le _⟩) hS (fun q _ h => hFc q h) hFc (fun r_14 u_14 t9 H1 locs ht9 hvm9 hw9 hB9 hz9 hk9 hS => ?_)
  obtain ⟨er_14, eu_14⟩ := hw9
  have zr_14 : r_14 = 0 ∨ r_14 = 1 := by rw [er_14]; exact zX12_putDecimal _ _ _ _ _ _
  obtain ⟨hP, hD⟩ := back_std (w1 := (wX12_putDecimal cI cB a_mo a_mem a_mks a_mr a_cnt a_wd a_one a_two a_mmade a_mrest a_old v_thrown v_mask v_key v_wait v_problem v_code v_length v_cond v_masks v_addr v_mwanted v_wrong v_after v_calls v_oneB v_twoB u_14 v_mmF)) (w2 := (wX12_afterDecimal cI cB a_mo a_mem a_mks a_mr a_cnt a_wd a_one a_two a_mmade a_mrest a_old v_thrown v_mask v_key v_wait v_problem v_code v_length v_cond v_masks v_addr v_mwanted v_wrong v_after v_calls v_oneB v_twoB u_14 v_mmF)) (wr := []) hP hD [0, 1, 2] [] [0, 1, 2] rfl rfl (by decide) (by decide) hk9 hFc hB9 ht9 (by decide) rfl
  clear hB9 hk9 hz9 hvm9 ht9 hFc hPc hDc
  generalize H1 = H at hP hS ⊢
  refine lv_istore (lv' := [(5, .int r_14), (4, .int r_4), (0, .ref a_mo), (1, .int x0), (2, .int x1), (3, .int x2)]) hx hb dX12_afterDecimal_17 hl (by decide) rfl (fun ls hl => ?_)
  refine lv_aload_n hx hb dX12_afterDecimal_19 rfl (lv_at hl 2 rfl) ?_
  refine lv_iload hx hb dX12_afterDecimal_20 (lv_at hl 0 rfl) ?_
  have J_47 : ∀ (m_47 : Int32), m_47 = (if r_14 = 0 then (if r_4 = 0 then (if x2 = 0 then (2) else (1)) else (0)) else (3)) → ∀ (H : Heap) (locs : List Loc), va_P D vwCl (wX12_afterDecimal cI cB a_mo a_mem a_mks a_mr a_cnt a_wd a_one a_two a_mmade a_mrest a_old v_thrown v_mask v_key v_wait v_problem v_code v_length v_cond v_masks v_addr v_mwanted v_wrong v_after v_calls v_oneB v_twoB u_14 v_mmF) H → va_D A (wX12_afterDecimal cI cB a_mo a_mem a_mks a_mr a_cnt a_wd a_one a_two a_mmade a_mrest a_old v_thrown v_mask v_key v_wait v_problem v_code v_length v_cond v_masks v_addr v_mwanted v_wrong v_after v_calls v_oneB v_twoB u_14 v_mmF) → va_S A s.heap H locs → ∀ (ls : Array Slot), lv_has ls 6 [(0, .ref a_mo), (1, .int x0), (2, .int x1), (3, .int x2), (4, .int r_4), (5, .int r_14)] → W p l e rmX12_afterDecimal s m ([.ref a_mo, .int x0, .int x1, .int x2] : List Value).toArray below meth c H locs 0 0 (MQ below (qX12_afterDecimal D cI cB a_mo a_mem a_mks a_mr a_cnt a_wd a_one a_two a_mmade a_mrest a_old v_thrown v_mask v_key v_wait v_problem v_code v_length v_cond v_masks v_addr v_mwanted v_wrong v_after v_calls v_oneB v_twoB v_mF v_mmF x0 x1 x2 A) ([.ref a_mo, .int x0, .int x1, .int x2] : List Value).toArray s 0 0 A) (F0 m 47 ls [.int m_47, .ref a_mo]) := by
    intro m_47 em_47 H locs hP hD hS ls hl
    try dsimp only at em_47
    refine va_put (D := D) (ci := 12) (v := .int m_47) (ty := .int) (C := RX12) (T := TX12) (N := 26) hx hb hts in_X12 tyX12 tyX12_ok nmX12 hown hK hP hD hS 0 rfl rfl 10 (by decide) q_1 (fun _ h9 => h9) rfl (by decide +kernel) rfl rfl (Nat.le_of_ble_eq_true rfl) dX12_afterDecimal_47 (fun H locs hP hD hS => ?_)
    have hP : va_P D vwCl (wX12_afterDecimal cI cB a_mo a_mem a_mks a_mr a_cnt a_wd a_one a_two a_mmade a_mrest a_old v_thrown v_mask v_key v_wait v_problem v_code v_length m_47 v_masks v_addr v_mwanted v_wrong v_after v_calls v_oneB v_twoB u_14 v_mmF) H := hP
    have hD : va_D A (wX12_afterDecimal cI cB a_mo a_mem a_mks a_mr a_cnt a_wd a_one a_two a_mmade a_mrest a_old v_thrown v_mask v_key v_wait v_problem v_code v_length m_47 v_masks v_addr v_mwanted v_wrong v_after v_calls v_oneB v_twoB u_14 v_mmF) := hD
    refine lv_iload hx hb dX12_afterDecimal_50 (lv_at hl 5 rfl) ?_
    refine lv_if_eq (tgt := 70) hx hb dX12_afterDecimal_52 (by decide) (fun c_52 => ?_) (fun c_52 => ?_)
    · skip
      have hf9 : (m_47, v_after, u_14) = fX12_afterDecimal x0 x1 x2 v_cond v_masks v_after v_mF v_mmF := by simp only [fX12_afterDecimal, ← er_4, ← er_14, ← eu_14, ← em_47]; (try simp only [if_pos c_52])
      exact W.vret hx hb hr (fun t9 ht9 hW9 => ⟨⟨(m_47, v_after, u_14), rfl, hf9, ⟨by rw [ht9]; exact hP, va_K.moved hW9.alike hK, hD⟩⟩, hS.F ht9⟩) hS.2.2 dX12_afterDecimal_70
    · skip
      refine lv_aload_n hx hb dX12_afterDecimal_55 rfl (lv_at hl 0 rfl) ?_
      refine va_get (D := D) (ci := 12) (v := .int v_masks) (C := RX12) (T := TX12) (N := 26) hx hb hts in_X12 hown hK hP 0 rfl rfl 11 (by decide) q_2 (fun _ h9 => h9) rfl dX12_afterDecimal_56 ?_
      refine lv_iconst (v := 4) hx hb dX12_afterDecimal_59 (by decide) ?_
      refine lv_iand hx hb dX12_afterDecimal_60 ?_
      refine lv_if_eq (tgt := 70) hx hb dX12_afterDecimal_61 (by decide) (fun c_61 => ?_) (fun c_61 => ?_)
      · skip
        have hf9 : (m_47, v_after, u_14) = fX12_afterDecimal x0 x1 x2 v_cond v_masks v_after v_mF v_mmF := by simp only [fX12_afterDecimal, ← er_4, ← er_14, ← eu_14, ← em_47]; (try simp only [if_neg c_52, if_pos c_61])
        exact W.vret hx hb hr (fun t9 ht9 hW9 => ⟨⟨(m_47, v_after, u_14), rfl, hf9, ⟨by rw [ht9]; exact hP, va_K.moved hW9.alike hK, hD⟩⟩, hS.F ht9⟩) hS.2.2 dX12_afterDecimal_70
      · skip
        refine lv_aload_n hx hb dX12_afterDecimal_64 rfl (lv_at hl 0 rfl) ?_
        refine lv_bipush (v := 10) hx hb dX12_afterDecimal_65 (by decide) ?_
        refine va_put (D := D) (ci := 12) (v := .int 10) (ty := .int) (C := RX12) (T := TX12) (N := 26) hx hb hts in_X12 tyX12 tyX12_ok nmX12 hown hK hP hD hS 0 rfl rfl 17 (by decide) q_3 (fun _ h9 => h9) rfl (by decide +kernel) rfl rfl (Nat.le_of_ble_eq_true rfl) dX12_afterDecimal_67 (fun H locs hP hD hS => ?_)
        have hP : va_P D vwCl (wX12_afterDecimal cI cB a_mo a_mem a_mks a_mr a_cnt a_wd a_one a_two a_mmade a_mrest a_old v_thrown v_mask v_key v_wait v_problem v_code v_length m_47 v_masks v_addr v_mwanted v_wrong 10 v_calls v_oneB v_twoB u_14 v_mmF) H := hP
        have hD : va_D A (wX12_afterDecimal cI cB a_mo a_mem a_mks a_mr a_cnt a_wd a_one a_two a_mmade a_mrest a_old v_thrown v_mask v_key v_wait v_problem v_code v_length m_47 v_masks v_addr v_mwanted v_wrong 10 v_calls v_oneB v_twoB u_14 v_mmF) := hD
        have hf9 : (m_47, 10, u_14) = fX12_afterDecimal x0 x1 x2 v_cond v_masks v_after v_mF v_mmF := by simp only [fX12_afterDecimal, ← er_4, ← er_14, ← eu_14, ← em_47]; (try simp only [if_neg c_52, if_neg c_61])
        exact W.vret hx hb hr (fun t9 ht9 hW9 => ⟨⟨(m_47, 10, u_14), rfl, hf9, ⟨by rw [ht9]; exact hP, va_K.moved hW9.alike hK, hD⟩⟩, hS.F ht9⟩) hS.2.2 dX12_afterDecimal_70
  refine lv_if_eq (tgt := 29) hx hb dX12_afterDecimal_22 (by decide) (fun c_22 => ?_) (fun c_22 => ?_)
  · skip
    refine lv_iload hx hb dX12_afterDecimal_29 (lv_at hl 1 rfl) ?_
    refine lv_if_eq (tgt := 38) hx hb dX12_afterDecimal_31 (by decide) (fun c_31 => ?_) (fun c_31 => ?_)
    · skip
      refine lv_iload_n hx hb dX12_afterDecimal_38 rfl (lv_at hl 5 rfl) ?_
      refine lv_if_eq (tgt := 46) hx hb dX12_afterDecimal_39 (by decide) (fun c_39 => ?_) (fun c_39 => ?_)
      · skip
        refine lv_iconst (v := 2) hx hb dX12_afterDecimal_46 (by decide) ?_
        exact J_47 2 (by (try simp only [if_pos c_22, if_pos c_31, if_pos c_39])) _ _ hP hD hS ls (lv_sub hl [2, 3, 4, 5, 1, 0] rfl)
      · skip
        refine lv_iconst (v := 1) hx hb dX12_afterDecimal_42 (by decide) ?_
        refine lv_goto (tgt := 47) hx hb dX12_afterDecimal_43 (by decide) ?_
        exact J_47 1 (by (try simp only [if_pos c_22, if_pos c_31, if_neg c_39])) _ _ hP hD hS ls (lv_sub hl [2, 3, 4, 5, 1, 0] rfl)
    · skip
      refine lv_iconst (v := 0) hx hb dX12_afterDecimal_34 (by decide) ?_
      refine lv_goto (tgt := 47) hx hb dX12_afterDecimal_35 (by decide) ?_
      exact J_47 0 (by (try simp only [if_pos c_22, if_neg c_31])) _ _ hP hD hS ls (lv_sub hl [2, 3, 4, 5, 1, 0] rfl)
  · skip
    refine lv_iconst (v := 3) hx hb dX12_afterDecimal_25 (by decide) ?_
    refine lv_goto (tgt := 47) hx hb dX12_afterDecimal_26 (by decide) ?_
    exact J_47 3 (by (try simp only [if_neg c_22])) _ _ hP hD hS ls (lv_sub hl [2, 3, 4, 5, 1, 0] rfl)
theorem hdX12_afterDecimal : yX12_afterDecimal.cls = RX12 ∧ yX12_afterDecimal.cls ≠ "java/lang/invoke/MethodHandle" ∧ yX12_afterDecimal.cls ≠ "java/lang/invoke/VarHandle" ∧ (parseMethodDescriptor yX12_afterDecimal.desc).map (fun d => d.parameters.length) = some 3 := by decide +kernel
noncomputable def fX12_sumOfDecimals (x0 : Int32) (x1 : Int32) (x2 : Int32) (x3 : Int32) (v_cond : Int32) (v_masks : Int32) (v_after : Int32) (v_oneB : Int32) (v_twoB : Int32) (v_mF : (Nat → Int32)) (v_oneF : (Nat → Int32)) (v_twoF : (Nat → Int32)) (v_mmF : (Nat → Int32)) : (Int32 × Int32 × (Nat → Int32) × (Nat → Int32)) :=
  let m_13 : Int32 := (if x0 = v_twoB then (0) else (1))
  let m_93 : ((Nat → Int32) × Int32) := (if m_13 = v_oneB then (let u_40 := fX12_addDigits 1 v_mmF v_oneF v_twoF; (u_40, v_oneB)) else (let r_54 := fX12_order v_oneF v_twoF; if r_54 < 0 then (let u_86 := fX12_addDigits (-1) v_mmF v_twoF v_oneF; (u_86, m_13)) else (let u_70 := fX12_addDigits (-1) v_mmF v_oneF v_twoF; (u_70, v_oneB))))
  if x1 = 0 then (let u_134 := fX12_afterDecimal x2 x3 m_93.2 v_cond v_masks v_after v_mF m_93.1; (u_134.1, u_134.2.1, u_134.2.2, m_93.1)) else (let r_102 := fX12_isZero m_93.1; let m_122 : Int32 := (if r_102 = 0 then (if m_93.2 = 0 then (2) else (1)) else (0)); (m_122, v_after, v_mF, m_93.1))
abbrev wX12_sumOfDecimals (cI cB : ClassId) (a_mo a_mem a_mks a_mr a_cnt a_wd a_one a_two a_mmade a_mrest a_old : Nat) (v_thrown : Int32) (v_mask : Int32) (v_key : Int32) (v_wait : Int32) (v_problem : Int32) (v_code : Int32) (v_length : Int32) (v_cond : Int32) (v_masks : Int32) (v_addr : Int32) (v_mwanted : Int32) (v_wrong : Int32) (v_after : Int32) (v_calls : Int32) (v_oneB : Int32) (v_twoB : Int32) (v_mF : (Nat → Int32)) (v_oneF : (Nat → Int32)) (v_twoF : (Nat → Int32)) (v_mmF : (Nat → Int32)) : va_W := [(a_mo, .inr (12, [.int v_thrown, .ref a_mem, .ref a_mks, .ref a_mr, .int v_mask, .int v_key, .int v_wait, .int v_problem, .int v_code, .int v_length, .int v_cond, .int v_masks, .int v_addr, .int v_mwanted, .ref a_cnt, .ref a_wd, .int v_wrong, .int v_after, .int v_calls, .ref a_one, .int v_oneB, .ref a_two, .int v_twoB, .ref a_mmade, .ref a_mrest, .ref a_old])), (a_mem, .inl (cI, 8192, .inl v_mF)), (a_one, .inl (cI, 80, .inl v_oneF)), (a_two, .inl (cI, 80, .inl v_twoF)), (a_mmade, .inl (cI, 80, .inl v_mmF))]
abbrev rmX12_sumOfDecimals : Room := { frames := 2, cells := 0, slots := 0, locals := 55 }
abbrev qX12_sumOfDecimals (D : va_G) (cI cB : ClassId) (a_mo a_mem a_mks a_mr a_cnt a_wd a_one a_two a_mmade a_mrest a_old : Nat) (v_thrown : Int32) (v_mask : Int32) (v_key : Int32) (v_wait : Int32) (v_problem : Int32) (v_code : Int32) (v_length : Int32) (v_cond : Int32) (v_masks : Int32) (v_addr : Int32) (v_mwanted : Int32) (v_wrong : Int32) (v_after : Int32) (v_calls : Int32) (v_oneB : Int32) (v_twoB : Int32) (v_mF : (Nat → Int32)) (v_oneF : (Nat → Int32)) (v_twoF : (Nat → Int32)) (v_mmF : (Nat → Int32)) (x0 : Int32) (x1 : Int32) (x2 : Int32) (x3 : Int32) : (Nat → Prop) → Array Value → State → Outcome → State → Prop := fun A9 => va_Qv (fun (u9 : (Int32 × Int32 × (Nat → Int32) × (Nat → Int32))) => u9 = fX12_sumOfDecimals x0 x1 x2 x3 v_cond v_masks v_after v_oneB v_twoB v_mF v_oneF v_twoF v_mmF) (fun u9 t9 => atW D (TYS cI cB) A9 (wX12_sumOfDecimals cI cB a_mo a_mem a_mks a_mr a_cnt a_wd a_one a_two a_mmade a_mrest a_old v_thrown v_mask v_key v_wait v_problem v_code v_length u9.1 v_masks v_addr v_mwanted v_wrong u9.2.1 v_calls v_oneB v_twoB u9.2.2.1 v_oneF v_twoF u9.2.2.2) t9) A9
set_option maxHeartbeats 4000000 in
set_option maxRecDepth 100000 in
theorem kX12_sumOfDecimals (l : Launch) (D : va_G) (cI cB : ClassId) (a_mo a_mem a_mks a_mr a_cnt a_wd a_one a_two a_mmade a_mrest a_old : Nat) (sz : Nat) (v_thrown : Int32) (v_mask : Int32) (v_key : Int32) (v_wait : Int32) (v_problem : Int32) (v_code : Int32) (v_length : Int32) (v_cond : Int32) (v_masks : Int32) (v_addr : Int32) (v_mwanted : Int32) (v_wrong : Int32) (v_after : Int32) (v_calls : Int32) (v_oneB : Int32) (v_twoB : Int32) (v_mF : (Nat → Int32)) (v_oneF : (Nat → Int32)) (v_twoF : (Nat → Int32)) (v_mmF : (Nat → Int32)) (x0 : Int32) (x1 : Int32) (x2 : Int32) (x3 : Int32) (hn : 1 ≤ x3.toInt ∧ x3.toInt ≤ 16) (ha : inM x2 x3) : MetW l yX12_sumOfDecimals (WK yX12_sumOfDecimals cX12_sumOfDecimals 7 none) rmX12_sumOfDecimals D (TYS cI cB) (wX12_sumOfDecimals cI cB a_mo a_mem a_mks a_mr a_cnt a_wd a_one a_two a_mmade a_mrest a_old v_thrown v_mask v_key v_wait v_problem v_code v_length v_cond v_masks v_addr v_mwanted v_wrong v_after v_calls v_oneB v_twoB v_mF v_oneF v_twoF v_mmF) sz [.ref a_mo, .int x0, .int x1, .int x2, .int x3] (qX12_sumOfDecimals D cI cB a_mo a_mem a_mks a_mr a_cnt a_wd a_one a_two a_mmade a_mrest a_old v_thrown v_mask v_key v_wait v_problem v_code v_length v_cond v_masks v_addr v_mwanted v_wrong v_after v_calls v_oneB v_twoB v_mF v_oneF v_twoF v_mmF x0 x1 x2 x3) 0 0 := by
  refine met_std (by decide) rfl (Nat.le_of_ble_eq_true rfl) ?_
  intro p e s m below meth c A ls H hx hb hr hml hown hts hlocks hA hP hK hD hS hNW hl
  have hl : lv_has ls 7 [(0, .ref a_mo), (1, .int x0), (2, .int x1), (3, .int x2), (4, .int x3)] := hl
  have q_0 := hts _ (List.mem_cons_of_mem _ wd_889)
  have q_1 := hts _ (List.mem_cons_of_mem _ wd_888)
  have q_2 := hts _ (List.mem_cons_of_mem _ wd_782)
  have q_3 := hts _ (List.mem_cons_of_mem _ wd_783)
  have q_4 := hts _ (List.mem_cons_of_mem _ wd_784)
  have q_5 := hts _ (List.mem_cons_of_mem _ wd_792)
  refine lv_iload_n hx hb dX12_sumOfDecimals_0 rfl (lv_at hl 1 rfl) ?_
  refine lv_aload_n hx hb dX12_sumOfDecimals_1 rfl (lv_at hl 0 rfl) ?_
  refine va_get (D := D) (ci := 12) (v := .int v_twoB) (C := RX12) (T := TX12) (N := 26) hx hb hts in_X12 hown hK hP 0 rfl rfl 22 (by decide) q_0 (fun _ h9 => h9) rfl dX12_sumOfDecimals_2 ?_
  have J_13 : ∀ (m_13 : Int32), m_13 = (if x0 = v_twoB then (0) else (1)) → ∀ (H : Heap) (locs : List Loc), va_P D vwCl (wX12_sumOfDecimals cI cB a_mo a_mem a_mks a_mr a_cnt a_wd a_one a_two a_mmade a_mrest a_old v_thrown v_mask v_key v_wait v_problem v_code v_length v_cond v_masks v_addr v_mwanted v_wrong v_after v_calls v_oneB v_twoB v_mF v_oneF v_twoF v_mmF) H → va_D A (wX12_sumOfDecimals cI cB a_mo a_mem a_mks a_mr a_cnt a_wd a_one a_two a_mmade a_mrest a_old v_thrown v_mask v_key v_wait v_problem v_code v_length v_cond v_masks v_addr v_mwanted v_wrong v_after v_calls v_oneB v_twoB v_mF v_oneF v_twoF v_mmF) → va_S A s.heap H locs → ∀ (ls : Array Slot), lv_has ls 7 [(0, .ref a_mo), (1, .int x0), (2, .int x1), (3, .int x2), (4, .int x3)] → W p l e rmX12_sumOfDecimals s m ([.ref a_mo, .int x0, .int x1, .int x2, .int x3] : List Value).toArray below meth c H locs 0 0 (MQ below (qX12_sumOfDecimals D cI cB a_mo a_mem a_mks a_mr a_cnt a_wd a_one a_two a_mmade a_mrest a_old v_thrown v_mask v_key v_wait v_problem v_code v_length v_cond v_masks v_addr v_mwanted v_wrong v_after v_calls v_oneB v_twoB v_mF v_oneF v_twoF v_mmF x0 x1 x2 x3 A) ([.ref a_mo, .int x0, .int x1, .int x2, .int x3] : List Value).toArray s 0 0 A) (F0 m 13 ls [.int m_13]) := by
    intro m_13 em_13 H locs hP hD hS ls hl
    try dsimp only at em_13
    have zm_13_0 : m_13 = 0 ∨ m_13 = 1 := by rw [em_13]; (try dsimp only); (repeat' split) <;> first | exact Or.inl rfl | exact Or.inr rfl
    refine lv_istore (lv' := [(5, .int m_13), (0, .ref a_mo), (1, .int x0), (2, .int x1), (3, .int x2), (4, .int x3)]) hx hb dX12_sumOfDecimals_13 hl (by decide) rfl (fun ls hl => ?_)
    refine lv_aload_n hx hb dX12_sumOfDecimals_15 rfl (lv_at hl 1 rfl) ?_
    refine va_get (D := D) (ci := 12) (v := .int v_oneB) (C := RX12) (T := TX12) (N := 26) hx hb hts in_X12 hown hK hP 0 rfl rfl 20 (by decide) q_1 (fun _ h9 => h9) rfl dX12_sumOfDecimals_16 ?_
    refine lv_istore (lv' := [(6, .int v_oneB), (5, .int m_13), (0, .ref a_mo), (1, .int x0), (2, .int x1), (3, .int x2), (4, .int x3)]) hx hb dX12_sumOfDecimals_19 hl (by decide) rfl (fun ls hl => ?_)
    refine lv_iload hx hb dX12_sumOfDecimals_21 (lv_at hl 1 rfl) ?_
    refine lv_aload_n hx hb dX12_sumOfDecimals_23 rfl (lv_at hl 2 rfl) ?_
    refine va_get (D := D) (ci := 12) (v := .int v_oneB) (C := RX12) (T := TX12) (N := 26) hx hb hts in_X12 hown hK hP 0 rfl rfl 20 (by decide) q_1 (fun _ h9 => h9) rfl dX12_sumOfDecimals_24 ?_
    have J_93 : ∀ (m_93 : ((Nat → Int32) × Int32)), m_93 = (if m_13 = v_oneB then (let u_40 := fX12_addDigits 1 v_mmF v_oneF v_twoF; (u_40, v_oneB)) else (let r_54 := fX12_order v_oneF v_twoF; if r_54 < 0 then (let u_86 := fX12_addDigits (-1) v_mmF v_twoF v_oneF; (u_86, m_13)) else (let u_70 := fX12_addDigits (-1) v_mmF v_oneF v_twoF; (u_70, v_oneB))) : ((Nat → Int32) × Int32)) → ∀ (H : Heap) (locs : List Loc), va_P D vwCl (wX12_sumOfDecimals cI cB a_mo a_mem a_mks a_mr a_cnt a_wd a_one a_two a_mmade a_mrest a_old v_thrown v_mask v_key v_wait v_problem v_code v_length v_cond v_masks v_addr v_mwanted v_wrong v_after v_calls v_oneB v_twoB v_mF v_oneF v_twoF m_93.1) H → va_D A (wX12_sumOfDecimals cI cB a_mo a_mem a_mks a_mr a_cnt a_wd a_one a_two a_mmade a_mrest a_old v_thrown v_mask v_key v_wait v_problem v_code v_length v_cond v_masks v_addr v_mwanted v_wrong v_after v_calls v_oneB v_twoB v_mF v_oneF v_twoF m_93.1) → va_S A s.heap H locs → ∀ (ls : Array Slot), lv_has ls 7 [(0, .ref a_mo), (1, .int x0), (2, .int x1), (3, .int x2), (4, .int x3), (5, .int m_13), (6, .int m_93.2)] → W p l e rmX12_sumOfDecimals s m ([.ref a_mo, .int x0, .int x1, .int x2, .int x3] : List Value).toArray below meth c H locs 0 0 (MQ below (qX12_sumOfDecimals D cI cB a_mo a_mem a_mks a_mr a_cnt a_wd a_one a_two a_mmade a_mrest a_old v_thrown v_mask v_key v_wait v_problem v_code v_length v_cond v_masks v_addr v_mwanted v_wrong v_after v_calls v_oneB v_twoB v_mF v_oneF v_twoF v_mmF x0 x1 x2 x3 A) ([.ref a_mo, .int x0, .int x1, .int x2, .int x3] : List Value).toArray s 0 0 A) (F0 m 93 ls []) := by
      intro m_93 em_93 H locs hP hD hS ls hl
      try dsimp only at em_93
      refine lv_iload_n hx hb dX12_sumOfDecimals_93 rfl (lv_at hl 2 rfl) ?_
      refine lv_if_eq (tgt := 128) hx hb dX12_sumOfDecimals_94 (by decide) (fun c_94 => ?_) (fun c_94 => ?_)
      · skip
        refine lv_aload_n hx hb dX12_sumOfDecimals_128 rfl (lv_at hl 0 rfl) ?_
        refine lv_iload_n hx hb dX12_sumOfDecimals_129 rfl (lv_at hl 3 rfl) ?_
        refine lv_iload hx hb dX12_sumOfDecimals_130 (lv_at hl 4 rfl) ?_
        refine lv_iload hx hb dX12_sumOfDecimals_132 (lv_at hl 6 rfl) ?_
        have hPc : va_P D vwCl (wX12_afterDecimal cI cB a_mo a_mem a_mks a_mr a_cnt a_wd a_one a_two a_mmade a_mrest a_old v_thrown v_mask v_key v_wait v_problem v_code v_length v_cond v_masks v_addr v_mwanted v_wrong v_after v_calls v_oneB v_twoB v_mF m_93.1) H := hP.sub [0, 1, 4] rfl
        have hDc : va_D A (wX12_afterDecimal cI cB a_mo a_mem a_mks a_mr a_cnt a_wd a_one a_two a_mmade a_mrest a_old v_thrown v_mask v_key v_wait v_problem v_code v_length v_cond v_masks v_addr v_mwanted v_wrong v_after v_calls v_oneB v_twoB v_mF m_93.1) := hD.sub [0, 1, 4] (by decide) rfl
        have hFc := va_free (wc := (wX12_afterDecimal cI cB a_mo a_mem a_mks a_mr a_cnt a_wd a_one a_two a_mmade a_mrest a_old v_thrown v_mask v_key v_wait v_problem v_code v_length v_cond v_masks v_addr v_mwanted v_wrong v_after v_calls v_oneB v_twoB v_mF m_93.1)) hD hS hA [0, 1, 4] rfl
        refine va_callv (va_runV (As := [.int x2, .int x3, .int m_93.2]) (rest := []) ⟨hx, hb, hml, hown, hts⟩ (kX12_afterDecimal l D cI cB a_mo a_mem a_mks a_mr a_cnt a_wd a_one a_two a_mmade a_mrest a_old H.size v_thrown v_mask v_key v_wait v_problem v_code v_length v_cond v_masks v_addr v_mwanted v_wrong v_after v_calls v_oneB v_twoB v_mF m_93.1 x2 x3 m_93.2 (by first | with_reducible assumption | decide | (unfold vp_in; decide)) (by first | with_reducible assumption | decide | (unfold vp_in; decide))) (cwV 3 hts (gd_V wd_905 wd_906 wd_907 wd_807 wd_894) rfl rfl rfl hdX12_afterDecimal ⟨Nat.le_of_ble_eq_true rfl, Nat.le_of_ble_eq_true rfl⟩) (preV_std (ci := 12) (q0 := 0) hPc hK hDc hNW rfl rfl) rfl rfl hl.1 rfl (lv_room (Nat.le_of_ble_eq_true rfl)) dX12_sumOfDecimals_134 ⟨Nat.zero_le _, Nat.zero_le _⟩) hS (fun q _ h => hFc q h) hFc (fun u_134 t9 H1 locs ht9 hvm9 hw9 hB9 hz9 hk9 hS => ?_)
        have eu_134 : u_134 = fX12_afterDecimal x2 x3 m_93.2 v_cond v_masks v_after v_mF m_93.1 := hw9
        obtain ⟨hP, hD⟩ := back_std (w1 := (wX12_afterDecimal cI cB a_mo a_mem a_mks a_mr a_cnt a_wd a_one a_two a_mmade a_mrest a_old v_thrown v_mask v_key v_wait v_problem v_code v_length u_134.1 v_masks v_addr v_mwanted v_wrong u_134.2.1 v_calls v_oneB v_twoB u_134.2.2 m_93.1)) (w2 := (wX12_sumOfDecimals cI cB a_mo a_mem a_mks a_mr a_cnt a_wd a_one a_two a_mmade a_mrest a_old v_thrown v_mask v_key v_wait v_problem v_code v_length u_134.1 v_masks v_addr v_mwanted v_wrong u_134.2.1 v_calls v_oneB v_twoB u_134.2.2 v_oneF v_twoF m_93.1)) (wr := [(a_one, .inl (cI, 80, .inl v_oneF)), (a_two, .inl (cI, 80, .inl v_twoF))]) hP hD [0, 1, 4] [2, 3] [2, 3, 0, 1, 4] rfl rfl (by decide) (by decide) hk9 hFc hB9 ht9 (by decide) rfl
        clear hB9 hk9 hz9 hvm9 ht9 hFc hPc hDc
        generalize H1 = H at hP hS ⊢
        have hf9 : (u_134.1, u_134.2.1, u_134.2.2, m_93.1) = fX12_sumOfDecimals x0 x1 x2 x3 v_cond v_masks v_after v_oneB v_twoB v_mF v_oneF v_twoF v_mmF := by simp only [fX12_sumOfDecimals, ← em_13, ← em_93, ← eu_134]; (try simp only [if_pos c_94])
        exact W.vret hx hb hr (fun t9 ht9 hW9 => ⟨⟨(u_134.1, u_134.2.1, u_134.2.2, m_93.1), rfl, hf9, ⟨by rw [ht9]; exact hP, va_K.moved hW9.alike hK, hD⟩⟩, hS.F ht9⟩) hS.2.2 dX12_sumOfDecimals_137
      · skip
        refine lv_aload_n hx hb dX12_sumOfDecimals_97 rfl (lv_at hl 0 rfl) ?_
        refine lv_aload_n hx hb dX12_sumOfDecimals_98 rfl (lv_at hl 0 rfl) ?_
        refine va_get (D := D) (ci := 12) (v := .ref a_mmade) (C := RX12) (T := TX12) (N := 26) hx hb hts in_X12 hown hK hP 0 rfl rfl 23 (by decide) q_4 (fun _ h9 => h9) rfl dX12_sumOfDecimals_99 ?_
        have hPc : va_P D vwCl (wX12_isZero cI cB a_mmade m_93.1) H := hP.sub [4] rfl
        have hDc : va_D A (wX12_isZero cI cB a_mmade m_93.1) := hD.sub [4] (by decide) rfl
        have hFc := va_free (wc := (wX12_isZero cI cB a_mmade m_93.1)) hD hS hA [4] rfl
        refine va_calli (va_runS (As := [.ref a_mmade]) (rest := [.ref a_mo]) ⟨hx, hb, hml, hown, hts⟩ (kX12_isZero l D cI cB a_mmade H.size m_93.1 ) (va_cwS 1 hts (gd_S wd_895 wd_896 wd_807 wd_891) rfl rfl rfl hdX12_isZero.2 ⟨Nat.le_of_ble_eq_true rfl, Nat.le_of_ble_eq_true rfl⟩) (preS_std hPc hK hDc hNW) rfl rfl hl.1 rfl (lv_room (Nat.le_of_ble_eq_true rfl)) dX12_sumOfDecimals_102 ⟨Nat.zero_le _, Nat.zero_le _⟩) hS (fun q _ h => hFc q h) hFc (fun r_102 u_102 t9 H1 locs ht9 hvm9 hw9 hB9 hz9 hk9 hS => ?_)
        have er_102 : r_102 = fX12_isZero m_93.1 := hw9
        have zr_102 : r_102 = 0 ∨ r_102 = 1 := by rw [er_102]; exact zX12_isZero _
        obtain ⟨hP, hD⟩ := back_std (w1 := (wX12_isZero cI cB a_mmade m_93.1)) (w2 := (wX12_sumOfDecimals cI cB a_mo a_mem a_mks a_mr a_cnt a_wd a_one a_two a_mmade a_mrest a_old v_thrown v_mask v_key v_wait v_problem v_code v_length v_cond v_masks v_addr v_mwanted v_wrong v_after v_calls v_oneB v_twoB v_mF v_oneF v_twoF m_93.1)) (wr := [(a_mo, .inr (12, [.int v_thrown, .ref a_mem, .ref a_mks, .ref a_mr, .int v_mask, .int v_key, .int v_wait, .int v_problem, .int v_code, .int v_length, .int v_cond, .int v_masks, .int v_addr, .int v_mwanted, .ref a_cnt, .ref a_wd, .int v_wrong, .int v_after, .int v_calls, .ref a_one, .int v_oneB, .ref a_two, .int v_twoB, .ref a_mmade, .ref a_mrest, .ref a_old])), (a_mem, .inl (cI, 8192, .inl v_mF)), (a_one, .inl (cI, 80, .inl v_oneF)), (a_two, .inl (cI, 80, .inl v_twoF))]) hP hD [4] [0, 1, 2, 3] [0, 1, 2, 3, 4] rfl rfl (by decide) (by decide) hk9 hFc hB9 ht9 (by decide) rfl
        clear hB9 hk9 hz9 hvm9 ht9 hFc hPc hDc
        generalize H1 = H at hP hS ⊢
        have J_122 : ∀ (m_122 : Int32), m_122 = (if r_102 = 0 then (if m_93.2 = 0 then (2) else (1)) else (0)) → ∀ (H : Heap) (locs : List Loc), va_P D vwCl (wX12_sumOfDecimals cI cB a_mo a_mem a_mks a_mr a_cnt a_wd a_one a_two a_mmade a_mrest a_old v_thrown v_mask v_key v_wait v_problem v_code v_length v_cond v_masks v_addr v_mwanted v_wrong v_after v_calls v_oneB v_twoB v_mF v_oneF v_twoF m_93.1) H → va_D A (wX12_sumOfDecimals cI cB a_mo a_mem a_mks a_mr a_cnt a_wd a_one a_two a_mmade a_mrest a_old v_thrown v_mask v_key v_wait v_problem v_code v_length v_cond v_masks v_addr v_mwanted v_wrong v_after v_calls v_oneB v_twoB v_mF v_oneF v_twoF m_93.1) → va_S A s.heap H locs → ∀ (ls : Array Slot), lv_has ls 7 [(0, .ref a_mo), (1, .int x0), (2, .int x1), (3, .int x2), (4, .int x3), (5, .int m_13), (6, .int m_93.2)] → W p l e rmX12_sumOfDecimals s m ([.ref a_mo, .int x0, .int x1, .int x2, .int x3] : List Value).toArray below meth c H locs 0 0 (MQ below (qX12_sumOfDecimals D cI cB a_mo a_mem a_mks a_mr a_cnt a_wd a_one a_two a_mmade a_mrest a_old v_thrown v_mask v_key v_wait v_problem v_code v_length v_cond v_masks v_addr v_mwanted v_wrong v_after v_calls v_oneB v_twoB v_mF v_oneF v_twoF v_mmF x0 x1 x2 x3 A) ([.ref a_mo, .int x0, .int x1, .int x2, .int x3] : List Value).toArray s 0 0 A) (F0 m 122 ls [.int m_122, .ref a_mo]) := by
          intro m_122 em_122 H locs hP hD hS ls hl
          try dsimp only at em_122
          refine va_put (D := D) (ci := 12) (v := .int m_122) (ty := .int) (C := RX12) (T := TX12) (N := 26) hx hb hts in_X12 tyX12 tyX12_ok nmX12 hown hK hP hD hS 0 rfl rfl 10 (by decide) q_5 (fun _ h9 => h9) rfl (by decide +kernel) rfl rfl (Nat.le_of_ble_eq_true rfl) dX12_sumOfDecimals_122 (fun H locs hP hD hS => ?_)
          have hP : va_P D vwCl (wX12_sumOfDecimals cI cB a_mo a_mem a_mks a_mr a_cnt a_wd a_one a_two a_mmade a_mrest a_old v_thrown v_mask v_key v_wait v_problem v_code v_length m_122 v_masks v_addr v_mwanted v_wrong v_after v_calls v_oneB v_twoB v_mF v_oneF v_twoF m_93.1) H := hP
          have hD : va_D A (wX12_sumOfDecimals cI cB a_mo a_mem a_mks a_mr a_cnt a_wd a_one a_two a_mmade a_mrest a_old v_thrown v_mask v_key v_wait v_problem v_code v_length m_122 v_masks v_addr v_mwanted v_wrong v_after v_calls v_oneB v_twoB v_mF v_oneF v_twoF m_93.1) := hD
          refine lv_goto (tgt := 137) hx hb dX12_sumOfDecimals_125 (by decide) ?_
          have hf9 : (m_122, v_after, v_mF, m_93.1) = fX12_sumOfDecimals x0 x1 x2 x3 v_cond v_masks v_after v_oneB v_twoB v_mF v_oneF v_twoF v_mmF := by simp only [fX12_sumOfDecimals, ← em_13, ← em_93, ← er_102, ← em_122]; (try simp only [if_neg c_94])
          exact W.vret hx hb hr (fun t9 ht9 hW9 => ⟨⟨(m_122, v_after, v_mF, m_93.1), rfl, hf9, ⟨by rw [ht9]; exact hP, va_K.moved hW9.alike hK, hD⟩⟩, hS.F ht9⟩) hS.2.2 dX12_sumOfDecimals_137
        refine lv_if_eq (tgt := 112) hx hb dX12_sumOfDecimals_105 (by decide) (fun c_105 => ?_) (fun c_105 => ?_)
        · skip
          refine lv_iload hx hb dX12_sumOfDecimals_112 (lv_at hl 6 rfl) ?_
          refine lv_if_eq (tgt := 121) hx hb dX12_sumOfDecimals_114 (by decide) (fun c_114 => ?_) (fun c_114 => ?_)
          · skip
            refine lv_iconst (v := 2) hx hb dX12_sumOfDecimals_121 (by decide) ?_
            exact J_122 2 (by (try simp only [if_pos c_105, if_pos c_114])) _ _ hP hD hS ls (lv_sub hl [0, 1, 2, 3, 4, 5, 6] rfl)
          · skip
            refine lv_iconst (v := 1) hx hb dX12_sumOfDecimals_117 (by decide) ?_
            refine lv_goto (tgt := 122) hx hb dX12_sumOfDecimals_118 (by decide) ?_
            exact J_122 1 (by (try simp only [if_pos c_105, if_neg c_114])) _ _ hP hD hS ls (lv_sub hl [0, 1, 2, 3, 4, 5, 6] rfl)
        · skip
          refine lv_iconst (v := 0) hx hb dX12_sumOfDecimals_108 (by decide) ?_
          refine lv_goto (tgt := 122) hx hb dX12_sumOfDecimals_109 (by decide) ?_
          exact J_122 0 (by (try simp only [if_neg c_105])) _ _ hP hD hS ls (lv_sub hl [0, 1, 2, 3, 4, 5, 6] rfl)
    refine lv_icmp_ne (tgt := 46) hx hb dX12_sumOfDecimals_27 (by decide) (fun c_27 => ?_) (fun c_27 => ?_)
    · skip
      refine lv_aload_n hx hb dX12_sumOfDecimals_46 rfl (lv_at hl 2 rfl) ?_
      refine va_get (D := D) (ci := 12) (v := .ref a_one) (C := RX12) (T := TX12) (N := 26) hx hb hts in_X12 hown hK hP 0 rfl rfl 19 (by decide) q_2 (fun _ h9 => h9) rfl dX12_sumOfDecimals_47 ?_
      refine lv_aload_n hx hb dX12_sumOfDecimals_50 rfl (lv_at hl 2 rfl) ?_
      refine va_get (D := D) (ci := 12) (v := .ref a_two) (C := RX12) (T := TX12) (N := 26) hx hb hts in_X12 hown hK hP 0 rfl rfl 21 (by decide) q_3 (fun _ h9 => h9) rfl dX12_sumOfDecimals_51 ?_
      have hPc : va_P D vwCl (wX12_order cI cB a_one a_two v_oneF v_twoF) H := hP.sub [2, 3] rfl
      have hDc : va_D A (wX12_order cI cB a_one a_two v_oneF v_twoF) := hD.sub [2, 3] (by decide) rfl
      have hFc := va_free (wc := (wX12_order cI cB a_one a_two v_oneF v_twoF)) hD hS hA [2, 3] rfl
      refine va_calli (va_runS (As := [.ref a_one, .ref a_two]) (rest := []) ⟨hx, hb, hml, hown, hts⟩ (kX12_order l D cI cB a_one a_two H.size v_oneF v_twoF ) (va_cwS 2 hts (gd_S wd_903 wd_904 wd_807 wd_890) rfl rfl rfl hdX12_order.2 ⟨Nat.le_of_ble_eq_true rfl, Nat.le_of_ble_eq_true rfl⟩) (preS_std hPc hK hDc hNW) rfl rfl hl.1 rfl (lv_room (Nat.le_of_ble_eq_true rfl)) dX12_sumOfDecimals_54 ⟨Nat.zero_le _, Nat.zero_le _⟩) hS (fun q _ h => hFc q h) hFc (fun r_54 u_54 t9 H1 locs ht9 hvm9 hw9 hB9 hz9 hk9 hS => ?_)
      have er_54 : r_54 = fX12_order v_oneF v_twoF := hw9
      obtain ⟨hP, hD⟩ := back_std (w1 := (wX12_order cI cB a_one a_two v_oneF v_twoF)) (w2 := (wX12_sumOfDecimals cI cB a_mo a_mem a_mks a_mr a_cnt a_wd a_one a_two a_mmade a_mrest a_old v_thrown v_mask v_key v_wait v_problem v_code v_length v_cond v_masks v_addr v_mwanted v_wrong v_after v_calls v_oneB v_twoB v_mF v_oneF v_twoF v_mmF)) (wr := [(a_mo, .inr (12, [.int v_thrown, .ref a_mem, .ref a_mks, .ref a_mr, .int v_mask, .int v_key, .int v_wait, .int v_problem, .int v_code, .int v_length, .int v_cond, .int v_masks, .int v_addr, .int v_mwanted, .ref a_cnt, .ref a_wd, .int v_wrong, .int v_after, .int v_calls, .ref a_one, .int v_oneB, .ref a_two, .int v_twoB, .ref a_mmade, .ref a_mrest, .ref a_old])), (a_mem, .inl (cI, 8192, .inl v_mF)), (a_mmade, .inl (cI, 80, .inl v_mmF))]) hP hD [2, 3] [0, 1, 4] [0, 1, 3, 4, 2] rfl rfl (by decide) (by decide) hk9 hFc hB9 ht9 (by decide) rfl
      clear hB9 hk9 hz9 hvm9 ht9 hFc hPc hDc
      generalize H1 = H at hP hS ⊢
      refine lv_if_lt (tgt := 76) hx hb dX12_sumOfDecimals_57 (by decide) (fun c_57 => ?_) (fun c_57 => ?_)
      · skip
        refine lv_aload_n hx hb dX12_sumOfDecimals_76 rfl (lv_at hl 2 rfl) ?_
        refine lv_aload_n hx hb dX12_sumOfDecimals_77 rfl (lv_at hl 2 rfl) ?_
        refine va_get (D := D) (ci := 12) (v := .ref a_two) (C := RX12) (T := TX12) (N := 26) hx hb hts in_X12 hown hK hP 0 rfl rfl 21 (by decide) q_3 (fun _ h9 => h9) rfl dX12_sumOfDecimals_78 ?_
        refine lv_aload_n hx hb dX12_sumOfDecimals_81 rfl (lv_at hl 2 rfl) ?_
        refine va_get (D := D) (ci := 12) (v := .ref a_one) (C := RX12) (T := TX12) (N := 26) hx hb hts in_X12 hown hK hP 0 rfl rfl 19 (by decide) q_2 (fun _ h9 => h9) rfl dX12_sumOfDecimals_82 ?_
        refine lv_iconst (v := (-1)) hx hb dX12_sumOfDecimals_85 (by decide) ?_
        have hPc : va_P D vwCl (wX12_addDigits cI cB a_mo a_mem a_mks a_mr a_cnt a_wd a_one a_two a_mmade a_mrest a_old a_two a_one v_thrown v_mask v_key v_wait v_problem v_code v_length v_cond v_masks v_addr v_mwanted v_wrong v_after v_calls v_oneB v_twoB v_mmF v_twoF v_oneF) H := hP.sub [0, 4, 3, 2] rfl
        have hDc : va_D A (wX12_addDigits cI cB a_mo a_mem a_mks a_mr a_cnt a_wd a_one a_two a_mmade a_mrest a_old a_two a_one v_thrown v_mask v_key v_wait v_problem v_code v_length v_cond v_masks v_addr v_mwanted v_wrong v_after v_calls v_oneB v_twoB v_mmF v_twoF v_oneF) := hD.sub [0, 4, 3, 2] (by decide) rfl
        have hFc := va_free (wc := (wX12_addDigits cI cB a_mo a_mem a_mks a_mr a_cnt a_wd a_one a_two a_mmade a_mrest a_old a_two a_one v_thrown v_mask v_key v_wait v_problem v_code v_length v_cond v_masks v_addr v_mwanted v_wrong v_after v_calls v_oneB v_twoB v_mmF v_twoF v_oneF)) hD hS hA [0, 4, 3, 2] rfl
        refine va_callv (va_runV (As := [.ref a_two, .ref a_one, .int (-1)]) (rest := []) ⟨hx, hb, hml, hown, hts⟩ (kX12_addDigits l D cI cB a_mo a_mem a_mks a_mr a_cnt a_wd a_one a_two a_mmade a_mrest a_old a_two a_one H.size v_thrown v_mask v_key v_wait v_problem v_code v_length v_cond v_masks v_addr v_mwanted v_wrong v_after v_calls v_oneB v_twoB v_mmF v_twoF v_oneF (-1)) (cwV 3 hts (gd_V wd_900 wd_901 wd_902 wd_807 wd_892) rfl rfl rfl hdX12_addDigits ⟨Nat.le_of_ble_eq_true rfl, Nat.le_of_ble_eq_true rfl⟩) (preV_std (ci := 12) (q0 := 0) hPc hK hDc hNW rfl rfl) rfl rfl hl.1 rfl (lv_room (Nat.le_of_ble_eq_true rfl)) dX12_sumOfDecimals_86 ⟨Nat.zero_le _, Nat.zero_le _⟩) hS (fun q _ h => hFc q h) hFc (fun u_86 t9 H1 locs ht9 hvm9 hw9 hB9 hz9 hk9 hS => ?_)
        have eu_86 : u_86 = fX12_addDigits (-1) v_mmF v_twoF v_oneF := hw9
        obtain ⟨hP, hD⟩ := back_std (w1 := (wX12_addDigits cI cB a_mo a_mem a_mks a_mr a_cnt a_wd a_one a_two a_mmade a_mrest a_old a_two a_one v_thrown v_mask v_key v_wait v_problem v_code v_length v_cond v_masks v_addr v_mwanted v_wrong v_after v_calls v_oneB v_twoB u_86 v_twoF v_oneF)) (w2 := (wX12_sumOfDecimals cI cB a_mo a_mem a_mks a_mr a_cnt a_wd a_one a_two a_mmade a_mrest a_old v_thrown v_mask v_key v_wait v_problem v_code v_length v_cond v_masks v_addr v_mwanted v_wrong v_after v_calls v_oneB v_twoB v_mF v_oneF v_twoF u_86)) (wr := [(a_mem, .inl (cI, 8192, .inl v_mF))]) hP hD [0, 4, 3, 2] [1] [1, 0, 4, 3, 2] rfl rfl (by decide) (by decide) hk9 hFc hB9 ht9 (by decide) rfl
        clear hB9 hk9 hz9 hvm9 ht9 hFc hPc hDc
        generalize H1 = H at hP hS ⊢
        refine lv_iload hx hb dX12_sumOfDecimals_89 (lv_at hl 1 rfl) ?_
        refine lv_istore (lv' := [(6, .int m_13), (5, .int m_13), (0, .ref a_mo), (1, .int x0), (2, .int x1), (3, .int x2), (4, .int x3)]) hx hb dX12_sumOfDecimals_91 hl (by decide) rfl (fun ls hl => ?_)
        exact J_93 (u_86, m_13) (by (try simp only [← er_54, ← eu_86]); (try simp only [if_neg c_27, if_pos c_57])) _ _ hP hD hS ls (lv_sub hl [2, 3, 4, 5, 6, 1, 0] rfl)
      · skip
        refine lv_aload_n hx hb dX12_sumOfDecimals_60 rfl (lv_at hl 2 rfl) ?_
        refine lv_aload_n hx hb dX12_sumOfDecimals_61 rfl (lv_at hl 2 rfl) ?_
        refine va_get (D := D) (ci := 12) (v := .ref a_one) (C := RX12) (T := TX12) (N := 26) hx hb hts in_X12 hown hK hP 0 rfl rfl 19 (by decide) q_2 (fun _ h9 => h9) rfl dX12_sumOfDecimals_62 ?_
        refine lv_aload_n hx hb dX12_sumOfDecimals_65 rfl (lv_at hl 2 rfl) ?_
        refine va_get (D := D) (ci := 12) (v := .ref a_two) (C := RX12) (T := TX12) (N := 26) hx hb hts in_X12 hown hK hP 0 rfl rfl 21 (by decide) q_3 (fun _ h9 => h9) rfl dX12_sumOfDecimals_66 ?_
        refine lv_iconst (v := (-1)) hx hb dX12_sumOfDecimals_69 (by decide) ?_
        have hPc : va_P D vwCl (wX12_addDigits cI cB a_mo a_mem a_mks a_mr a_cnt a_wd a_one a_two a_mmade a_mrest a_old a_one a_two v_thrown v_mask v_key v_wait v_problem v_code v_length v_cond v_masks v_addr v_mwanted v_wrong v_after v_calls v_oneB v_twoB v_mmF v_oneF v_twoF) H := hP.sub [0, 4, 2, 3] rfl
        have hDc : va_D A (wX12_addDigits cI cB a_mo a_mem a_mks a_mr a_cnt a_wd a_one a_two a_mmade a_mrest a_old a_one a_two v_thrown v_mask v_key v_wait v_problem v_code v_length v_cond v_masks v_addr v_mwanted v_wrong v_after v_calls v_oneB v_twoB v_mmF v_oneF v_twoF) := hD.sub [0, 4, 2, 3] (by decide) rfl
        have hFc := va_free (wc := (wX12_addDigits cI cB a_mo a_mem a_mks a_mr a_cnt a_wd a_one a_two a_mmade a_mrest a_old a_one a_two v_thrown v_mask v_key v_wait v_problem v_code v_length v_cond v_masks v_addr v_mwanted v_wrong v_after v_calls v_oneB v_twoB v_mmF v_oneF v_twoF)) hD hS hA [0, 4, 2, 3] rfl
        refine va_callv (va_runV (As := [.ref a_one, .ref a_two, .int (-1)]) (rest := []) ⟨hx, hb, hml, hown, hts⟩ (kX12_addDigits l D cI cB a_mo a_mem a_mks a_mr a_cnt a_wd a_one a_two a_mmade a_mrest a_old a_one a_two H.size v_thrown v_mask v_key v_wait v_problem v_code v_length v_cond v_masks v_addr v_mwanted v_wrong v_after v_calls v_oneB v_twoB v_mmF v_oneF v_twoF (-1)) (cwV 3 hts (gd_V wd_900 wd_901 wd_902 wd_807 wd_892) rfl rfl rfl hdX12_addDigits ⟨Nat.le_of_ble_eq_true rfl, Nat.le_of_ble_eq_true rfl⟩) (preV_std (ci := 12) (q0 := 0) hPc hK hDc hNW rfl rfl) rfl rfl hl.1 rfl (lv_room (Nat.le_of_ble_eq_true rfl)) dX12_sumOfDecimals_70 ⟨Nat.zero_le _, Nat.zero_le _⟩) hS (fun q _ h => hFc q h) hFc (fun u_70 t9 H1 locs ht9 hvm9 hw9 hB9 hz9 hk9 hS => ?_)
        have eu_70 : u_70 = fX12_addDigits (-1) v_mmF v_oneF v_twoF := hw9
        obtain ⟨hP, hD⟩ := back_std (w1 := (wX12_addDigits cI cB a_mo a_mem a_mks a_mr a_cnt a_wd a_one a_two a_mmade a_mrest a_old a_one a_two v_thrown v_mask v_key v_wait v_problem v_code v_length v_cond v_masks v_addr v_mwanted v_wrong v_after v_calls v_oneB v_twoB u_70 v_oneF v_twoF)) (w2 := (wX12_sumOfDecimals cI cB a_mo a_mem a_mks a_mr a_cnt a_wd a_one a_two a_mmade a_mrest a_old v_thrown v_mask v_key v_wait v_problem v_code v_length v_cond v_masks v_addr v_mwanted v_wrong v_after v_calls v_oneB v_twoB v_mF v_oneF v_twoF u_70)) (wr := [(a_mem, .inl (cI, 8192, .inl v_mF))]) hP hD [0, 4, 2, 3] [1] [1, 0, 3, 4, 2] rfl rfl (by decide) (by decide) hk9 hFc hB9 ht9 (by decide) rfl
        clear hB9 hk9 hz9 hvm9 ht9 hFc hPc hDc
        generalize H1 = H at hP hS ⊢
        refine lv_goto (tgt := 93) hx hb dX12_sumOfDecimals_73 (by decide) ?_
        exact J_93 (u_70, v_oneB) (by (try simp only [← er_54, ← eu_70]); (try simp only [if_neg c_27, if_neg c_57])) _ _ hP hD hS ls (lv_sub hl [2, 3, 4, 5, 6, 1, 0] rfl)
    · skip
      refine lv_aload_n hx hb dX12_sumOfDecimals_30 rfl (lv_at hl 2 rfl) ?_
      refine lv_aload_n hx hb dX12_sumOfDecimals_31 rfl (lv_at hl 2 rfl) ?_
      refine va_get (D := D) (ci := 12) (v := .ref a_one) (C := RX12) (T := TX12) (N := 26) hx hb hts in_X12 hown hK hP 0 rfl rfl 19 (by decide) q_2 (fun _ h9 => h9) rfl dX12_sumOfDecimals_32 ?_
      refine lv_aload_n hx hb dX12_sumOfDecimals_35 rfl (lv_at hl 2 rfl) ?_
      refine va_get (D := D) (ci := 12) (v := .ref a_two) (C := RX12) (T := TX12) (N := 26) hx hb hts in_X12 hown hK hP 0 rfl rfl 21 (by decide) q_3 (fun _ h9 => h9) rfl dX12_sumOfDecimals_36 ?_
      refine lv_iconst (v := 1) hx hb dX12_sumOfDecimals_39 (by decide) ?_
      have hPc : va_P D vwCl (wX12_addDigits cI cB a_mo a_mem a_mks a_mr a_cnt a_wd a_one a_two a_mmade a_mrest a_old a_one a_two v_thrown v_mask v_key v_wait v_problem v_code v_length v_cond v_masks v_addr v_mwanted v_wrong v_after v_calls v_oneB v_twoB v_mmF v_oneF v_twoF) H := hP.sub [0, 4, 2, 3] rfl
      have hDc : va_D A (wX12_addDigits cI cB a_mo a_mem a_mks a_mr a_cnt a_wd a_one a_two a_mmade a_mrest a_old a_one a_two v_thrown v_mask v_key v_wait v_problem v_code v_length v_cond v_masks v_addr v_mwanted v_wrong v_after v_calls v_oneB v_twoB v_mmF v_oneF v_twoF) := hD.sub [0, 4, 2, 3] (by decide) rfl
      have hFc := va_free (wc := (wX12_addDigits cI cB a_mo a_mem a_mks a_mr a_cnt a_wd a_one a_two a_mmade a_mrest a_old a_one a_two v_thrown v_mask v_key v_wait v_problem v_code v_length v_cond v_masks v_addr v_mwanted v_wrong v_after v_calls v_oneB v_twoB v_mmF v_oneF v_twoF)) hD hS hA [0, 4, 2, 3] rfl
      refine va_callv (va_runV (As := [.ref a_one, .ref a_two, .int 1]) (rest := []) ⟨hx, hb, hml, hown, hts⟩ (kX12_addDigits l D cI cB a_mo a_mem a_mks a_mr a_cnt a_wd a_one a_two a_mmade a_mrest a_old a_one a_two H.size v_thrown v_mask v_key v_wait v_problem v_code v_length v_cond v_masks v_addr v_mwanted v_wrong v_after v_calls v_oneB v_twoB v_mmF v_oneF v_twoF 1) (cwV 3 hts (gd_V wd_900 wd_901 wd_902 wd_807 wd_892) rfl rfl rfl hdX12_addDigits ⟨Nat.le_of_ble_eq_true rfl, Nat.le_of_ble_eq_true rfl⟩) (preV_std (ci := 12) (q0 := 0) hPc hK hDc hNW rfl rfl) rfl rfl hl.1 rfl (lv_room (Nat.le_of_ble_eq_true rfl)) dX12_sumOfDecimals_40 ⟨Nat.zero_le _, Nat.zero_le _⟩) hS (fun q _ h => hFc q h) hFc (fun u_40 t9 H1 locs ht9 hvm9 hw9 hB9 hz9 hk9 hS => ?_)
      have eu_40 : u_40 = fX12_addDigits 1 v_mmF v_oneF v_twoF := hw9
      obtain ⟨hP, hD⟩ := back_std (w1 := (wX12_addDigits cI cB a_mo a_mem a_mks a_mr a_cnt a_wd a_one a_two a_mmade a_mrest a_old a_one a_two v_thrown v_mask v_key v_wait v_problem v_code v_length v_cond v_masks v_addr v_mwanted v_wrong v_after v_calls v_oneB v_twoB u_40 v_oneF v_twoF)) (w2 := (wX12_sumOfDecimals cI cB a_mo a_mem a_mks a_mr a_cnt a_wd a_one a_two a_mmade a_mrest a_old v_thrown v_mask v_key v_wait v_problem v_code v_length v_cond v_masks v_addr v_mwanted v_wrong v_after v_calls v_oneB v_twoB v_mF v_oneF v_twoF u_40)) (wr := [(a_mem, .inl (cI, 8192, .inl v_mF))]) hP hD [0, 4, 2, 3] [1] [1, 0, 3, 4, 2] rfl rfl (by decide) (by decide) hk9 hFc hB9 ht9 (by decide) rfl
      clear hB9 hk9 hz9 hvm9 ht9 hFc hPc hDc
      generalize H1 = H at hP hS ⊢
      refine lv_goto (tgt := 93) hx hb dX12_sumOfDecimals_43 (by decide) ?_
      exact J_93 (u_40, v_oneB) (by (try simp only [← eu_40]); (try simp only [if_pos c_27])) _ _ hP hD hS ls (lv_sub hl [2, 3, 4, 5, 6, 1, 0] rfl)
  refine lv_icmp_eq (tgt := 12) hx hb dX12_sumOfDecimals_5 (by decide) (fun c_5 => ?_) (fun c_5 => ?_)
  · skip
    refine lv_iconst (v := 0) hx hb dX12_sumOfDecimals_12 (by decide) ?_
    exact J_13 0 (by (try simp only [if_pos c_5])) _ _ hP hD hS ls (lv_sub hl [0, 1, 2, 3, 4] rfl)
  · skip
    refine lv_iconst (v := 1) hx hb dX12_sumOfDecimals_8 (by decide) ?_
    refine lv_goto (tgt := 13) hx hb dX12_sumOfDecimals_9 (by decide) ?_
    exact J_13 1 (by (try simp only [if_neg c_5])) _ _ hP hD hS ls (lv_sub hl [0, 1, 2, 3, 4] rfl)
theorem hdX12_sumOfDecimals : yX12_sumOfDecimals.cls = RX12 ∧ yX12_sumOfDecimals.cls ≠ "java/lang/invoke/MethodHandle" ∧ yX12_sumOfDecimals.cls ≠ "java/lang/invoke/VarHandle" ∧ (parseMethodDescriptor yX12_sumOfDecimals.desc).map (fun d => d.parameters.length) = some 4 := by decide +kernel
noncomputable def LX12_productOfDecimals_3 : Nat → ((Nat → Int32) × Int32) → ((Nat → Int32) × Int32)
  | 0, w_3 => w_3
  | n9 + 1, w_3 =>
    if 80 ≤ w_3.2 then ((w_3.1, w_3.2)) else (let f_17 := upd w_3.1 (w_3.2 : Int32).toNatClampNeg (0); let x_18 := w_3.2 + 1; LX12_productOfDecimals_3 n9 (f_17, x_18))
noncomputable def LX12_productOfDecimals_40 (v_oneF : (Nat → Int32)) (v_twoF : (Nat → Int32)) (w_27 : ((Nat → Int32) × Int32)) : Nat → ((Nat → Int32) × Int32 × Int32) → ((Nat → Int32) × Int32 × Int32)
  | 0, w_40 => w_40
  | n9 + 1, w_40 =>
    if 40 ≤ w_40.2.2 then ((w_40.1, w_40.2.1, w_40.2.2)) else (let x_76 := (((w_40.1 ((w_27.2 + w_40.2.2) : Int32).toNatClampNeg) + ((v_oneF (w_27.2 : Int32).toNatClampNeg) * (v_twoF (w_40.2.2 : Int32).toNatClampNeg))) + w_40.2.1); let f_92 := upd w_40.1 ((w_27.2 + w_40.2.2) : Int32).toNatClampNeg ((x_76 - x_76 / 10 * 10)); let x_98 := (x_76 / 10); let x_100 := w_40.2.2 + 1; LX12_productOfDecimals_40 v_oneF v_twoF w_27 n9 (f_92, x_98, x_100))
noncomputable def LX12_productOfDecimals_27 (v_oneF : (Nat → Int32)) (v_twoF : (Nat → Int32)) : Nat → ((Nat → Int32) × Int32) → ((Nat → Int32) × Int32)
  | 0, w_27 => w_27
  | n9 + 1, w_27 =>
    if 32 ≤ w_27.2 then ((w_27.1, w_27.2)) else (let g_40 := LX12_productOfDecimals_40 v_oneF v_twoF w_27 (msU 40 0 + 1) (w_27.1, 0, 0); let x_106 := w_27.2 + 1; LX12_productOfDecimals_27 v_oneF v_twoF n9 (g_40.1, x_106))
noncomputable def fX12_productOfDecimals (x0 : Int32) (x1 : Int32) (x2 : Int32) (v_oneB : Int32) (v_twoB : Int32) (v_mF : (Nat → Int32)) (v_oneF : (Nat → Int32)) (v_twoF : (Nat → Int32)) (v_mmF : (Nat → Int32)) : ((Nat → Int32) × (Nat → Int32)) :=
  let g_3 := LX12_productOfDecimals_3  (msU 80 0 + 1) (v_mmF, 0)
  let g_27 := LX12_productOfDecimals_27 v_oneF v_twoF (msU 32 0 + 1) (g_3.1, 0)
  let m_133 : Int32 := (if v_oneB = v_twoB then (0) else (1))
  let p_134 := fX12_putDecimal x0 (x1 + 1) m_133 1 v_mF g_27.1
  let r_134 := p_134.1
  let u_134 := p_134.2
  (u_134, g_27.1)
abbrev wX12_productOfDecimals (cI cB : ClassId) (a_mo a_mem a_mks a_mr a_cnt a_wd a_one a_two a_mmade a_mrest a_old : Nat) (v_thrown : Int32) (v_mask : Int32) (v_key : Int32) (v_wait : Int32) (v_problem : Int32) (v_code : Int32) (v_length : Int32) (v_cond : Int32) (v_masks : Int32) (v_addr : Int32) (v_mwanted : Int32) (v_wrong : Int32) (v_after : Int32) (v_calls : Int32) (v_oneB : Int32) (v_twoB : Int32) (v_mF : (Nat → Int32)) (v_oneF : (Nat → Int32)) (v_twoF : (Nat → Int32)) (v_mmF : (Nat → Int32)) : va_W := [(a_mo, .inr (12, [.int v_thrown, .ref a_mem, .ref a_mks, .ref a_mr, .int v_mask, .int v_key, .int v_wait, .int v_problem, .int v_code, .int v_length, .int v_cond, .int v_masks, .int v_addr, .int v_mwanted, .ref a_cnt, .ref a_wd, .int v_wrong, .int v_after, .int v_calls, .ref a_one, .int v_oneB, .ref a_two, .int v_twoB, .ref a_mmade, .ref a_mrest, .ref a_old])), (a_mem, .inl (cI, 8192, .inl v_mF)), (a_one, .inl (cI, 80, .inl v_oneF)), (a_two, .inl (cI, 80, .inl v_twoF)), (a_mmade, .inl (cI, 80, .inl v_mmF))]
abbrev rmX12_productOfDecimals : Room := { frames := 1, cells := 0, slots := 0, locals := 30 }
abbrev qX12_productOfDecimals (D : va_G) (cI cB : ClassId) (a_mo a_mem a_mks a_mr a_cnt a_wd a_one a_two a_mmade a_mrest a_old : Nat) (v_thrown : Int32) (v_mask : Int32) (v_key : Int32) (v_wait : Int32) (v_problem : Int32) (v_code : Int32) (v_length : Int32) (v_cond : Int32) (v_masks : Int32) (v_addr : Int32) (v_mwanted : Int32) (v_wrong : Int32) (v_after : Int32) (v_calls : Int32) (v_oneB : Int32) (v_twoB : Int32) (v_mF : (Nat → Int32)) (v_oneF : (Nat → Int32)) (v_twoF : (Nat → Int32)) (v_mmF : (Nat → Int32)) (x0 : Int32) (x1 : Int32) (x2 : Int32) : (Nat → Prop) → Array Value → State → Outcome → State → Prop := fun A9 => va_Qv (fun (u9 : ((Nat → Int32) × (Nat → Int32))) => u9 = fX12_productOfDecimals x0 x1 x2 v_oneB v_twoB v_mF v_oneF v_twoF v_mmF) (fun u9 t9 => atW D (TYS cI cB) A9 (wX12_productOfDecimals cI cB a_mo a_mem a_mks a_mr a_cnt a_wd a_one a_two a_mmade a_mrest a_old v_thrown v_mask v_key v_wait v_problem v_code v_length v_cond v_masks v_addr v_mwanted v_wrong v_after v_calls v_oneB v_twoB u9.1 v_oneF v_twoF u9.2) t9) A9
set_option maxHeartbeats 4000000 in
set_option maxRecDepth 100000 in
theorem kX12_productOfDecimals (l : Launch) (D : va_G) (cI cB : ClassId) (a_mo a_mem a_mks a_mr a_cnt a_wd a_one a_two a_mmade a_mrest a_old : Nat) (sz : Nat) (v_thrown : Int32) (v_mask : Int32) (v_key : Int32) (v_wait : Int32) (v_problem : Int32) (v_code : Int32) (v_length : Int32) (v_cond : Int32) (v_masks : Int32) (v_addr : Int32) (v_mwanted : Int32) (v_wrong : Int32) (v_after : Int32) (v_calls : Int32) (v_oneB : Int32) (v_twoB : Int32) (v_mF : (Nat → Int32)) (v_oneF : (Nat → Int32)) (v_twoF : (Nat → Int32)) (v_mmF : (Nat → Int32)) (x0 : Int32) (x1 : Int32) (x2 : Int32) (hn : 1 ≤ (x1 + 1).toInt ∧ (x1 + 1).toInt ≤ 16) (ha : inM x0 (x1 + 1)) : MetW l yX12_productOfDecimals (WK yX12_productOfDecimals cX12_productOfDecimals 8 none) rmX12_productOfDecimals D (TYS cI cB) (wX12_productOfDecimals cI cB a_mo a_mem a_mks a_mr a_cnt a_wd a_one a_two a_mmade a_mrest a_old v_thrown v_mask v_key v_wait v_problem v_code v_length v_cond v_masks v_addr v_mwanted v_wrong v_after v_calls v_oneB v_twoB v_mF v_oneF v_twoF v_mmF) sz [.ref a_mo, .int x0, .int x1, .int x2] (qX12_productOfDecimals D cI cB a_mo a_mem a_mks a_mr a_cnt a_wd a_one a_two a_mmade a_mrest a_old v_thrown v_mask v_key v_wait v_problem v_code v_length v_cond v_masks v_addr v_mwanted v_wrong v_after v_calls v_oneB v_twoB v_mF v_oneF v_twoF v_mmF x0 x1 x2) 0 0 := by
  refine met_std (by decide) rfl (Nat.le_of_ble_eq_true rfl) ?_
  intro p e s m below meth c A ls H hx hb hr hml hown hts hlocks hA hP hK hD hS hNW hl
  have hl : lv_has ls 8 [(0, .ref a_mo), (1, .int x0), (2, .int x1), (3, .int x2)] := hl
  have q_0 := hts _ (List.mem_cons_of_mem _ wd_784)
  have q_1 := hts _ (List.mem_cons_of_mem _ wd_782)
  have q_2 := hts _ (List.mem_cons_of_mem _ wd_783)
  have q_3 := hts _ (List.mem_cons_of_mem _ wd_888)
  have q_4 := hts _ (List.mem_cons_of_mem _ wd_889)
  refine lv_iconst (v := 0) hx hb dX12_productOfDecimals_0 (by decide) ?_
  refine lv_istore (lv' := [(4, .int 0), (0, .ref a_mo), (1, .int x0), (2, .int x1), (3, .int x2)]) hx hb dX12_productOfDecimals_1 hl (by decide) rfl (fun ls hl => ?_)
  obtain ⟨g_3, eg_3⟩ : ∃ z : ((Nat → Int32) × Int32), z = LX12_productOfDecimals_3  (msU 80 0 + 1) (v_mmF, 0) := ⟨_, rfl⟩
  have K_3_0 : ∀ (H : Heap) (locs : List Loc), va_P D vwCl (wX12_productOfDecimals cI cB a_mo a_mem a_mks a_mr a_cnt a_wd a_one a_two a_mmade a_mrest a_old v_thrown v_mask v_key v_wait v_problem v_code v_length v_cond v_masks v_addr v_mwanted v_wrong v_after v_calls v_oneB v_twoB v_mF v_oneF v_twoF g_3.1) H → va_D A (wX12_productOfDecimals cI cB a_mo a_mem a_mks a_mr a_cnt a_wd a_one a_two a_mmade a_mrest a_old v_thrown v_mask v_key v_wait v_problem v_code v_length v_cond v_masks v_addr v_mwanted v_wrong v_after v_calls v_oneB v_twoB v_mF v_oneF v_twoF g_3.1) → va_S A s.heap H locs → ∀ (ls : Array Slot), lv_has ls 8 [(0, .ref a_mo), (1, .int x0), (2, .int x1), (3, .int x2), (4, .int g_3.2)] → W p l e rmX12_productOfDecimals s m ([.ref a_mo, .int x0, .int x1, .int x2] : List Value).toArray below meth c H locs 0 0 (MQ below (qX12_productOfDecimals D cI cB a_mo a_mem a_mks a_mr a_cnt a_wd a_one a_two a_mmade a_mrest a_old v_thrown v_mask v_key v_wait v_problem v_code v_length v_cond v_masks v_addr v_mwanted v_wrong v_after v_calls v_oneB v_twoB v_mF v_oneF v_twoF v_mmF x0 x1 x2 A) ([.ref a_mo, .int x0, .int x1, .int x2] : List Value).toArray s 0 0 A) (F0 m 24 ls []) := by
    intro H locs hP hD hS ls hl
    refine lv_iconst (v := 0) hx hb dX12_productOfDecimals_24 (by decide) ?_
    refine lv_istore (lv' := [(4, .int 0), (0, .ref a_mo), (1, .int x0), (2, .int x1), (3, .int x2)]) hx hb dX12_productOfDecimals_25 hl (by decide) rfl (fun ls hl => ?_)
    obtain ⟨g_27, eg_27⟩ : ∃ z : ((Nat → Int32) × Int32), z = LX12_productOfDecimals_27 v_oneF v_twoF (msU 32 0 + 1) (g_3.1, 0) := ⟨_, rfl⟩
    have K_27_0 : ∀ (H : Heap) (locs : List Loc), va_P D vwCl (wX12_productOfDecimals cI cB a_mo a_mem a_mks a_mr a_cnt a_wd a_one a_two a_mmade a_mrest a_old v_thrown v_mask v_key v_wait v_problem v_code v_length v_cond v_masks v_addr v_mwanted v_wrong v_after v_calls v_oneB v_twoB v_mF v_oneF v_twoF g_27.1) H → va_D A (wX12_productOfDecimals cI cB a_mo a_mem a_mks a_mr a_cnt a_wd a_one a_two a_mmade a_mrest a_old v_thrown v_mask v_key v_wait v_problem v_code v_length v_cond v_masks v_addr v_mwanted v_wrong v_after v_calls v_oneB v_twoB v_mF v_oneF v_twoF g_27.1) → va_S A s.heap H locs → ∀ (ls : Array Slot), lv_has ls 8 [(0, .ref a_mo), (1, .int x0), (2, .int x1), (3, .int x2), (4, .int g_27.2)] → W p l e rmX12_productOfDecimals s m ([.ref a_mo, .int x0, .int x1, .int x2] : List Value).toArray below meth c H locs 0 0 (MQ below (qX12_productOfDecimals D cI cB a_mo a_mem a_mks a_mr a_cnt a_wd a_one a_two a_mmade a_mrest a_old v_thrown v_mask v_key v_wait v_problem v_code v_length v_cond v_masks v_addr v_mwanted v_wrong v_after v_calls v_oneB v_twoB v_mF v_oneF v_twoF v_mmF x0 x1 x2 A) ([.ref a_mo, .int x0, .int x1, .int x2] : List Value).toArray s 0 0 A) (F0 m 112 ls []) := by
      intro H locs hP hD hS ls hl
      refine lv_aload_n hx hb dX12_productOfDecimals_112 rfl (lv_at hl 0 rfl) ?_
      refine lv_iload_n hx hb dX12_productOfDecimals_113 rfl (lv_at hl 1 rfl) ?_
      refine lv_iload_n hx hb dX12_productOfDecimals_114 rfl (lv_at hl 2 rfl) ?_
      refine lv_iconst (v := 1) hx hb dX12_productOfDecimals_115 (by decide) ?_
      refine lv_iadd hx hb dX12_productOfDecimals_116 ?_
      refine lv_aload_n hx hb dX12_productOfDecimals_117 rfl (lv_at hl 0 rfl) ?_
      refine va_get (D := D) (ci := 12) (v := .int v_oneB) (C := RX12) (T := TX12) (N := 26) hx hb hts in_X12 hown hK hP 0 rfl rfl 20 (by decide) q_3 (fun _ h9 => h9) rfl dX12_productOfDecimals_118 ?_
      refine lv_aload_n hx hb dX12_productOfDecimals_121 rfl (lv_at hl 0 rfl) ?_
      refine va_get (D := D) (ci := 12) (v := .int v_twoB) (C := RX12) (T := TX12) (N := 26) hx hb hts in_X12 hown hK hP 0 rfl rfl 22 (by decide) q_4 (fun _ h9 => h9) rfl dX12_productOfDecimals_122 ?_
      have J_133 : ∀ (m_133 : Int32), m_133 = (if v_oneB = v_twoB then (0) else (1)) → ∀ (H : Heap) (locs : List Loc), va_P D vwCl (wX12_productOfDecimals cI cB a_mo a_mem a_mks a_mr a_cnt a_wd a_one a_two a_mmade a_mrest a_old v_thrown v_mask v_key v_wait v_problem v_code v_length v_cond v_masks v_addr v_mwanted v_wrong v_after v_calls v_oneB v_twoB v_mF v_oneF v_twoF g_27.1) H → va_D A (wX12_productOfDecimals cI cB a_mo a_mem a_mks a_mr a_cnt a_wd a_one a_two a_mmade a_mrest a_old v_thrown v_mask v_key v_wait v_problem v_code v_length v_cond v_masks v_addr v_mwanted v_wrong v_after v_calls v_oneB v_twoB v_mF v_oneF v_twoF g_27.1) → va_S A s.heap H locs → ∀ (ls : Array Slot), lv_has ls 8 [(0, .ref a_mo), (1, .int x0), (2, .int x1), (3, .int x2), (4, .int g_27.2)] → W p l e rmX12_productOfDecimals s m ([.ref a_mo, .int x0, .int x1, .int x2] : List Value).toArray below meth c H locs 0 0 (MQ below (qX12_productOfDecimals D cI cB a_mo a_mem a_mks a_mr a_cnt a_wd a_one a_two a_mmade a_mrest a_old v_thrown v_mask v_key v_wait v_problem v_code v_length v_cond v_masks v_addr v_mwanted v_wrong v_after v_calls v_oneB v_twoB v_mF v_oneF v_twoF v_mmF x0 x1 x2 A) ([.ref a_mo, .int x0, .int x1, .int x2] : List Value).toArray s 0 0 A) (F0 m 133 ls [.int m_133, .int (x1 + 1), .int x0, .ref a_mo]) := by
        intro m_133 em_133 H locs hP hD hS ls hl
        try dsimp only at em_133
        have zm_133_0 : m_133 = 0 ∨ m_133 = 1 := by rw [em_133]; (try dsimp only); (repeat' split) <;> first | exact Or.inl rfl | exact Or.inr rfl
        refine lv_iconst (v := 1) hx hb dX12_productOfDecimals_133 (by decide) ?_
        have hPc : va_P D vwCl (wX12_putDecimal cI cB a_mo a_mem a_mks a_mr a_cnt a_wd a_one a_two a_mmade a_mrest a_old v_thrown v_mask v_key v_wait v_problem v_code v_length v_cond v_masks v_addr v_mwanted v_wrong v_after v_calls v_oneB v_twoB v_mF g_27.1) H := hP.sub [0, 1, 4] rfl
        have hDc : va_D A (wX12_putDecimal cI cB a_mo a_mem a_mks a_mr a_cnt a_wd a_one a_two a_mmade a_mrest a_old v_thrown v_mask v_key v_wait v_problem v_code v_length v_cond v_masks v_addr v_mwanted v_wrong v_after v_calls v_oneB v_twoB v_mF g_27.1) := hD.sub [0, 1, 4] (by decide) rfl
        have hFc := va_free (wc := (wX12_putDecimal cI cB a_mo a_mem a_mks a_mr a_cnt a_wd a_one a_two a_mmade a_mrest a_old v_thrown v_mask v_key v_wait v_problem v_code v_length v_cond v_masks v_addr v_mwanted v_wrong v_after v_calls v_oneB v_twoB v_mF g_27.1)) hD hS hA [0, 1, 4] rfl
        refine va_calli (va_runV (As := [.int x0, .int (x1 + 1), .int m_133, .int 1]) (rest := []) ⟨hx, hb, hml, hown, hts⟩ (kX12_putDecimal l D cI cB a_mo a_mem a_mks a_mr a_cnt a_wd a_one a_two a_mmade a_mrest a_old H.size v_thrown v_mask v_key v_wait v_problem v_code v_length v_cond v_masks v_addr v_mwanted v_wrong v_after v_calls v_oneB v_twoB v_mF g_27.1 x0 (x1 + 1) m_133 1 (by first | with_reducible assumption | decide | (unfold vp_in; decide)) (by first | with_reducible assumption | decide | (unfold vp_in; decide))) (cwV 4 hts (gd_V wd_897 wd_898 wd_899 wd_807 wd_893) rfl rfl rfl hdX12_putDecimal ⟨Nat.le_of_ble_eq_true rfl, Nat.le_of_ble_eq_true rfl⟩) (preV_std (ci := 12) (q0 := 0) hPc hK hDc hNW rfl rfl) rfl rfl hl.1 rfl (lv_room (Nat.le_of_ble_eq_true rfl)) dX12_productOfDecimals_134 ⟨Nat.zero_le _, Nat.zero_le _⟩) hS (fun q _ h => hFc q h) hFc (fun r_134 u_134 t9 H1 locs ht9 hvm9 hw9 hB9 hz9 hk9 hS => ?_)
        obtain ⟨er_134, eu_134⟩ := hw9
        have zr_134 : r_134 = 0 ∨ r_134 = 1 := by rw [er_134]; exact zX12_putDecimal _ _ _ _ _ _
        obtain ⟨hP, hD⟩ := back_std (w1 := (wX12_putDecimal cI cB a_mo a_mem a_mks a_mr a_cnt a_wd a_one a_two a_mmade a_mrest a_old v_thrown v_mask v_key v_wait v_problem v_code v_length v_cond v_masks v_addr v_mwanted v_wrong v_after v_calls v_oneB v_twoB u_134 g_27.1)) (w2 := (wX12_productOfDecimals cI cB a_mo a_mem a_mks a_mr a_cnt a_wd a_one a_two a_mmade a_mrest a_old v_thrown v_mask v_key v_wait v_problem v_code v_length v_cond v_masks v_addr v_mwanted v_wrong v_after v_calls v_oneB v_twoB u_134 v_oneF v_twoF g_27.1)) (wr := [(a_one, .inl (cI, 80, .inl v_oneF)), (a_two, .inl (cI, 80, .inl v_twoF))]) hP hD [0, 1, 4] [2, 3] [2, 3, 0, 1, 4] rfl rfl (by decide) (by decide) hk9 hFc hB9 ht9 (by decide) rfl
        clear hB9 hk9 hz9 hvm9 ht9 hFc hPc hDc
        generalize H1 = H at hP hS ⊢
        refine lv_istore (lv' := [(4, .int r_134), (0, .ref a_mo), (1, .int x0), (2, .int x1), (3, .int x2)]) hx hb dX12_productOfDecimals_137 hl (by decide) rfl (fun ls hl => ?_)
        have hf9 : (u_134, g_27.1) = fX12_productOfDecimals x0 x1 x2 v_oneB v_twoB v_mF v_oneF v_twoF v_mmF := by simp only [fX12_productOfDecimals, ← eg_3, ← eg_27, ← em_133, ← er_134, ← eu_134]
        exact W.vret hx hb hr (fun t9 ht9 hW9 => ⟨⟨(u_134, g_27.1), rfl, hf9, ⟨by rw [ht9]; exact hP, va_K.moved hW9.alike hK, hD⟩⟩, hS.F ht9⟩) hS.2.2 dX12_productOfDecimals_139
      refine lv_icmp_eq (tgt := 132) hx hb dX12_productOfDecimals_125 (by decide) (fun c_125 => ?_) (fun c_125 => ?_)
      · skip
        refine lv_iconst (v := 0) hx hb dX12_productOfDecimals_132 (by decide) ?_
        exact J_133 0 (by (try simp only [if_pos c_125])) _ _ hP hD hS ls (lv_sub hl [0, 1, 2, 3, 4] rfl)
      · skip
        refine lv_iconst (v := 1) hx hb dX12_productOfDecimals_128 (by decide) ?_
        refine lv_goto (tgt := 133) hx hb dX12_productOfDecimals_129 (by decide) ?_
        exact J_133 1 (by (try simp only [if_neg c_125])) _ _ hP hD hS ls (lv_sub hl [0, 1, 2, 3, 4] rfl)
    have lp_27 : ∀ (n9 : Nat) (w_27 : ((Nat → Int32) × Int32)), msU 32 w_27.2 < n9 → 0 ≤ w_27.2 → LX12_productOfDecimals_27 v_oneF v_twoF n9 w_27 = g_27 → ∀ (H : Heap) (locs : List Loc), va_P D vwCl (wX12_productOfDecimals cI cB a_mo a_mem a_mks a_mr a_cnt a_wd a_one a_two a_mmade a_mrest a_old v_thrown v_mask v_key v_wait v_problem v_code v_length v_cond v_masks v_addr v_mwanted v_wrong v_after v_calls v_oneB v_twoB v_mF v_oneF v_twoF w_27.1) H → va_D A (wX12_productOfDecimals cI cB a_mo a_mem a_mks a_mr a_cnt a_wd a_one a_two a_mmade a_mrest a_old v_thrown v_mask v_key v_wait v_problem v_code v_length v_cond v_masks v_addr v_mwanted v_wrong v_after v_calls v_oneB v_twoB v_mF v_oneF v_twoF w_27.1) → va_S A s.heap H locs → ∀ (ls : Array Slot), lv_has ls 8 [(0, .ref a_mo), (1, .int x0), (2, .int x1), (3, .int x2), (4, .int w_27.2)] → W p l e rmX12_productOfDecimals s m ([.ref a_mo, .int x0, .int x1, .int x2] : List Value).toArray below meth c H locs 0 0 (MQ below (qX12_productOfDecimals D cI cB a_mo a_mem a_mks a_mr a_cnt a_wd a_one a_two a_mmade a_mrest a_old v_thrown v_mask v_key v_wait v_problem v_code v_length v_cond v_masks v_addr v_mwanted v_wrong v_after v_calls v_oneB v_twoB v_mF v_oneF v_twoF v_mmF x0 x1 x2 A) ([.ref a_mo, .int x0, .int x1, .int x2] : List Value).toArray s 0 0 A) (F0 m 27 ls []) := by
      intro n9
      induction n9 with
      | zero => intro w_27 hm9; exact absurd hm9 (Nat.not_lt_zero _)
      | succ n9 ih =>
        intro w_27 hm9 hI9 hL9 H locs hP hD hS ls hl
        have hI_27 := hI9
        refine lv_iload hx hb dX12_productOfDecimals_27 (lv_at hl 4 rfl) ?_
        refine lv_bipush (v := 32) hx hb dX12_productOfDecimals_29 (by decide) ?_
        refine lv_icmp_ge (tgt := 112) hx hb dX12_productOfDecimals_31 (by decide) (fun c_31 => ?_) (fun c_31 => ?_)
        · skip
          have hg9 : (w_27.1, w_27.2) = g_27 := by rw [← hL9]; simp only [LX12_productOfDecimals_27]; (try simp only [if_pos c_31])
          subst hg9
          exact K_27_0 _ _ hP hD hS ls (lv_sub hl [0, 1, 2, 3, 4] rfl)
        · skip
          refine lv_iconst (v := 0) hx hb dX12_productOfDecimals_34 (by decide) ?_
          refine lv_istore (lv' := [(5, .int 0), (0, .ref a_mo), (1, .int x0), (2, .int x1), (3, .int x2), (4, .int w_27.2)]) hx hb dX12_productOfDecimals_35 hl (by decide) rfl (fun ls hl => ?_)
          refine lv_iconst (v := 0) hx hb dX12_productOfDecimals_37 (by decide) ?_
          refine lv_istore (lv' := [(6, .int 0), (5, .int 0), (0, .ref a_mo), (1, .int x0), (2, .int x1), (3, .int x2), (4, .int w_27.2)]) hx hb dX12_productOfDecimals_38 hl (by decide) rfl (fun ls hl => ?_)
          obtain ⟨g_40, eg_40⟩ : ∃ z : ((Nat → Int32) × Int32 × Int32), z = LX12_productOfDecimals_40 v_oneF v_twoF w_27 (msU 40 0 + 1) (w_27.1, 0, 0) := ⟨_, rfl⟩
          have K_40_0 : ∀ (H : Heap) (locs : List Loc), va_P D vwCl (wX12_productOfDecimals cI cB a_mo a_mem a_mks a_mr a_cnt a_wd a_one a_two a_mmade a_mrest a_old v_thrown v_mask v_key v_wait v_problem v_code v_length v_cond v_masks v_addr v_mwanted v_wrong v_after v_calls v_oneB v_twoB v_mF v_oneF v_twoF g_40.1) H → va_D A (wX12_productOfDecimals cI cB a_mo a_mem a_mks a_mr a_cnt a_wd a_one a_two a_mmade a_mrest a_old v_thrown v_mask v_key v_wait v_problem v_code v_length v_cond v_masks v_addr v_mwanted v_wrong v_after v_calls v_oneB v_twoB v_mF v_oneF v_twoF g_40.1) → va_S A s.heap H locs → ∀ (ls : Array Slot), lv_has ls 8 [(0, .ref a_mo), (1, .int x0), (2, .int x1), (3, .int x2), (4, .int w_27.2), (5, .int g_40.2.1), (6, .int g_40.2.2)] → W p l e rmX12_productOfDecimals s m ([.ref a_mo, .int x0, .int x1, .int x2] : List Value).toArray below meth c H locs 0 0 (MQ below (qX12_productOfDecimals D cI cB a_mo a_mem a_mks a_mr a_cnt a_wd a_one a_two a_mmade a_mrest a_old v_thrown v_mask v_key v_wait v_problem v_code v_length v_cond v_masks v_addr v_mwanted v_wrong v_after v_calls v_oneB v_twoB v_mF v_oneF v_twoF v_mmF x0 x1 x2 A) ([.ref a_mo, .int x0, .int x1, .int x2] : List Value).toArray s 0 0 A) (F0 m 106 ls []) := by
            intro H locs hP hD hS ls hl
            obtain ⟨x_106, ex_106⟩ : ∃ z : Int32, z = w_27.2 + 1 := ⟨_, rfl⟩
            refine lv_iinc (v := x_106) (lv' := [(4, .int x_106), (0, .ref a_mo), (1, .int x0), (2, .int x1), (3, .int x2), (5, .int g_40.2.1), (6, .int g_40.2.2)]) hx hb dX12_productOfDecimals_106 hl (k := 4) rfl (by rw [ex_106]; rfl) (by decide) rfl (fun ls hl => ?_)
            refine lv_goto (tgt := 27) hx hb dX12_productOfDecimals_109 (by decide) ?_
            exact ih (g_40.1, x_106) (by subst ex_106; subst eg_40;  exact Nat.lt_of_lt_of_le (ms_up c_31) (Nat.le_of_lt_succ hm9)) (by subst ex_106; subst eg_40;  exact nn_up hI9 c_31) (by rw [← hL9]; subst ex_106; simp only [LX12_productOfDecimals_27, ← eg_40]; (try simp only [if_neg c_31])) _ _ hP hD hS ls (lv_sub hl [1, 2, 3, 4, 0] rfl)
          have lp_40 : ∀ (n9 : Nat) (w_40 : ((Nat → Int32) × Int32 × Int32)), msU 40 w_40.2.2 < n9 → 0 ≤ w_40.2.2 → LX12_productOfDecimals_40 v_oneF v_twoF w_27 n9 w_40 = g_40 → ∀ (H : Heap) (locs : List Loc), va_P D vwCl (wX12_productOfDecimals cI cB a_mo a_mem a_mks a_mr a_cnt a_wd a_one a_two a_mmade a_mrest a_old v_thrown v_mask v_key v_wait v_problem v_code v_length v_cond v_masks v_addr v_mwanted v_wrong v_after v_calls v_oneB v_twoB v_mF v_oneF v_twoF w_40.1) H → va_D A (wX12_productOfDecimals cI cB a_mo a_mem a_mks a_mr a_cnt a_wd a_one a_two a_mmade a_mrest a_old v_thrown v_mask v_key v_wait v_problem v_code v_length v_cond v_masks v_addr v_mwanted v_wrong v_after v_calls v_oneB v_twoB v_mF v_oneF v_twoF w_40.1) → va_S A s.heap H locs → ∀ (ls : Array Slot), lv_has ls 8 [(0, .ref a_mo), (1, .int x0), (2, .int x1), (3, .int x2), (4, .int w_27.2), (5, .int w_40.2.1), (6, .int w_40.2.2)] → W p l e rmX12_productOfDecimals s m ([.ref a_mo, .int x0, .int x1, .int x2] : List Value).toArray below meth c H locs 0 0 (MQ below (qX12_productOfDecimals D cI cB a_mo a_mem a_mks a_mr a_cnt a_wd a_one a_two a_mmade a_mrest a_old v_thrown v_mask v_key v_wait v_problem v_code v_length v_cond v_masks v_addr v_mwanted v_wrong v_after v_calls v_oneB v_twoB v_mF v_oneF v_twoF v_mmF x0 x1 x2 A) ([.ref a_mo, .int x0, .int x1, .int x2] : List Value).toArray s 0 0 A) (F0 m 40 ls []) := by
            intro n9
            induction n9 with
            | zero => intro w_40 hm9; exact absurd hm9 (Nat.not_lt_zero _)
            | succ n9 ih =>
              intro w_40 hm9 hI9 hL9 H locs hP hD hS ls hl
              have hI_40 := hI9
              refine lv_iload hx hb dX12_productOfDecimals_40 (lv_at hl 6 rfl) ?_
              refine lv_bipush (v := 40) hx hb dX12_productOfDecimals_42 (by decide) ?_
              refine lv_icmp_ge (tgt := 106) hx hb dX12_productOfDecimals_44 (by decide) (fun c_44 => ?_) (fun c_44 => ?_)
              · skip
                have hg9 : (w_40.1, w_40.2.1, w_40.2.2) = g_40 := by rw [← hL9]; simp only [LX12_productOfDecimals_40]; (try simp only [if_pos c_44])
                subst hg9
                exact K_40_0 _ _ hP hD hS ls (lv_sub hl [0, 1, 2, 3, 4, 5, 6] rfl)
              · skip
                refine lv_aload_n hx hb dX12_productOfDecimals_47 rfl (lv_at hl 0 rfl) ?_
                refine va_get (D := D) (ci := 12) (v := .ref a_mmade) (C := RX12) (T := TX12) (N := 26) hx hb hts in_X12 hown hK hP 0 rfl rfl 23 (by decide) q_0 (fun _ h9 => h9) rfl dX12_productOfDecimals_48 ?_
                refine lv_iload hx hb dX12_productOfDecimals_51 (lv_at hl 4 rfl) ?_
                refine lv_iload hx hb dX12_productOfDecimals_53 (lv_at hl 6 rfl) ?_
                refine lv_iadd hx hb dX12_productOfDecimals_55 ?_
                refine va_iald hx hb hK hP 4 0 rfl rfl (pr_in hI_27 c_31 hI9 c_44) dX12_productOfDecimals_56 ?_
                refine lv_aload_n hx hb dX12_productOfDecimals_57 rfl (lv_at hl 0 rfl) ?_
                refine va_get (D := D) (ci := 12) (v := .ref a_one) (C := RX12) (T := TX12) (N := 26) hx hb hts in_X12 hown hK hP 0 rfl rfl 19 (by decide) q_1 (fun _ h9 => h9) rfl dX12_productOfDecimals_58 ?_
                refine lv_iload hx hb dX12_productOfDecimals_61 (lv_at hl 4 rfl) ?_
                refine va_iald hx hb hK hP 2 0 rfl rfl (vin_lt (b := 32) (B := 32) (by decide) (by decide) hI_27 c_31) dX12_productOfDecimals_63 ?_
                refine lv_aload_n hx hb dX12_productOfDecimals_64 rfl (lv_at hl 0 rfl) ?_
                refine va_get (D := D) (ci := 12) (v := .ref a_two) (C := RX12) (T := TX12) (N := 26) hx hb hts in_X12 hown hK hP 0 rfl rfl 21 (by decide) q_2 (fun _ h9 => h9) rfl dX12_productOfDecimals_65 ?_
                refine lv_iload hx hb dX12_productOfDecimals_68 (lv_at hl 6 rfl) ?_
                refine va_iald hx hb hK hP 3 0 rfl rfl (vin_lt (b := 40) (B := 40) (by decide) (by decide) hI9 c_44) dX12_productOfDecimals_70 ?_
                refine lv_imul hx hb dX12_productOfDecimals_71 ?_
                refine lv_iadd hx hb dX12_productOfDecimals_72 ?_
                refine lv_iload hx hb dX12_productOfDecimals_73 (lv_at hl 5 rfl) ?_
                refine lv_iadd hx hb dX12_productOfDecimals_75 ?_
                refine lv_topi (fun x_76 ex_76 => ?_)
                refine lv_istore (lv' := [(7, .int x_76), (0, .ref a_mo), (1, .int x0), (2, .int x1), (3, .int x2), (4, .int w_27.2), (5, .int w_40.2.1), (6, .int w_40.2.2)]) hx hb dX12_productOfDecimals_76 hl (by decide) rfl (fun ls hl => ?_)
                refine lv_aload_n hx hb dX12_productOfDecimals_78 rfl (lv_at hl 1 rfl) ?_
                refine va_get (D := D) (ci := 12) (v := .ref a_mmade) (C := RX12) (T := TX12) (N := 26) hx hb hts in_X12 hown hK hP 0 rfl rfl 23 (by decide) q_0 (fun _ h9 => h9) rfl dX12_productOfDecimals_79 ?_
                refine lv_iload hx hb dX12_productOfDecimals_82 (lv_at hl 5 rfl) ?_
                refine lv_iload hx hb dX12_productOfDecimals_84 (lv_at hl 7 rfl) ?_
                refine lv_iadd hx hb dX12_productOfDecimals_86 ?_
                refine lv_iload hx hb dX12_productOfDecimals_87 (lv_at hl 0 rfl) ?_
                refine lv_bipush (v := 10) hx hb dX12_productOfDecimals_89 (by decide) ?_
                refine lv_irem hx hb dX12_productOfDecimals_91 (by decide) ?_
                refine va_iast hx hb hK hP hD hS 4 0 rfl rfl (pr_in hI_27 c_31 hI9 c_44) dX12_productOfDecimals_92 (fun H locs hP hD hS => ?_)
                obtain ⟨f_92, ef_92⟩ : ∃ z : Nat → Int32, z = upd w_40.1 ((w_27.2 + w_40.2.2) : Int32).toNatClampNeg ((x_76 - x_76 / 10 * 10)) := ⟨_, rfl⟩
                have hP : va_P D vwCl (wX12_productOfDecimals cI cB a_mo a_mem a_mks a_mr a_cnt a_wd a_one a_two a_mmade a_mrest a_old v_thrown v_mask v_key v_wait v_problem v_code v_length v_cond v_masks v_addr v_mwanted v_wrong v_after v_calls v_oneB v_twoB v_mF v_oneF v_twoF (upd w_40.1 ((w_27.2 + w_40.2.2) : Int32).toNatClampNeg ((x_76 - x_76 / 10 * 10)))) H := hP
                have hD : va_D A (wX12_productOfDecimals cI cB a_mo a_mem a_mks a_mr a_cnt a_wd a_one a_two a_mmade a_mrest a_old v_thrown v_mask v_key v_wait v_problem v_code v_length v_cond v_masks v_addr v_mwanted v_wrong v_after v_calls v_oneB v_twoB v_mF v_oneF v_twoF (upd w_40.1 ((w_27.2 + w_40.2.2) : Int32).toNatClampNeg ((x_76 - x_76 / 10 * 10)))) := hD
                rw [← ef_92] at hP hD
                refine lv_iload hx hb dX12_productOfDecimals_93 (lv_at hl 0 rfl) ?_
                refine lv_bipush (v := 10) hx hb dX12_productOfDecimals_95 (by decide) ?_
                refine lv_idiv hx hb dX12_productOfDecimals_97 (by decide) ?_
                refine lv_topi (fun x_98 ex_98 => ?_)
                refine lv_istore (lv' := [(5, .int x_98), (7, .int x_76), (0, .ref a_mo), (1, .int x0), (2, .int x1), (3, .int x2), (4, .int w_27.2), (6, .int w_40.2.2)]) hx hb dX12_productOfDecimals_98 hl (by decide) rfl (fun ls hl => ?_)
                obtain ⟨x_100, ex_100⟩ : ∃ z : Int32, z = w_40.2.2 + 1 := ⟨_, rfl⟩
                refine lv_iinc (v := x_100) (lv' := [(6, .int x_100), (5, .int x_98), (7, .int x_76), (0, .ref a_mo), (1, .int x0), (2, .int x1), (3, .int x2), (4, .int w_27.2)]) hx hb dX12_productOfDecimals_100 hl (k := 7) rfl (by rw [ex_100]; rfl) (by decide) rfl (fun ls hl => ?_)
                refine lv_goto (tgt := 40) hx hb dX12_productOfDecimals_103 (by decide) ?_
                exact ih (f_92, x_98, x_100) (by subst ex_100; subst ex_98; subst ef_92; subst ex_76;  exact Nat.lt_of_lt_of_le (ms_up c_44) (Nat.le_of_lt_succ hm9)) (by subst ex_100; subst ex_98; subst ef_92; subst ex_76;  exact nn_up hI9 c_44) (by rw [← hL9]; subst ex_100; subst ex_98; subst ef_92; subst ex_76; simp only [LX12_productOfDecimals_40]; (try simp only [if_neg c_44])) _ _ hP hD hS ls (lv_sub hl [3, 4, 5, 6, 7, 1, 0] rfl)
          exact lp_40 (msU 40 0 + 1) (w_27.1, 0, 0) (Nat.lt_succ_self _) (by show (0 : Int32) ≤ 0; decide) eg_40.symm _ _ hP hD hS ls (lv_sub hl [2, 3, 4, 5, 6, 1, 0] rfl)
    exact lp_27 (msU 32 0 + 1) (g_3.1, 0) (Nat.lt_succ_self _) (by show (0 : Int32) ≤ 0; decide) eg_27.symm _ _ hP hD hS ls (lv_sub hl [1, 2, 3, 4, 0] rfl)
  have lp_3 : ∀ (n9 : Nat) (w_3 : ((Nat → Int32) × Int32)), msU 80 w_3.2 < n9 → 0 ≤ w_3.2 → LX12_productOfDecimals_3  n9 w_3 = g_3 → ∀ (H : Heap) (locs : List Loc), va_P D vwCl (wX12_productOfDecimals cI cB a_mo a_mem a_mks a_mr a_cnt a_wd a_one a_two a_mmade a_mrest a_old v_thrown v_mask v_key v_wait v_problem v_code v_length v_cond v_masks v_addr v_mwanted v_wrong v_after v_calls v_oneB v_twoB v_mF v_oneF v_twoF w_3.1) H → va_D A (wX12_productOfDecimals cI cB a_mo a_mem a_mks a_mr a_cnt a_wd a_one a_two a_mmade a_mrest a_old v_thrown v_mask v_key v_wait v_problem v_code v_length v_cond v_masks v_addr v_mwanted v_wrong v_after v_calls v_oneB v_twoB v_mF v_oneF v_twoF w_3.1) → va_S A s.heap H locs → ∀ (ls : Array Slot), lv_has ls 8 [(0, .ref a_mo), (1, .int x0), (2, .int x1), (3, .int x2), (4, .int w_3.2)] → W p l e rmX12_productOfDecimals s m ([.ref a_mo, .int x0, .int x1, .int x2] : List Value).toArray below meth c H locs 0 0 (MQ below (qX12_productOfDecimals D cI cB a_mo a_mem a_mks a_mr a_cnt a_wd a_one a_two a_mmade a_mrest a_old v_thrown v_mask v_key v_wait v_problem v_code v_length v_cond v_masks v_addr v_mwanted v_wrong v_after v_calls v_oneB v_twoB v_mF v_oneF v_twoF v_mmF x0 x1 x2 A) ([.ref a_mo, .int x0, .int x1, .int x2] : List Value).toArray s 0 0 A) (F0 m 3 ls []) := by
    intro n9
    induction n9 with
    | zero => intro w_3 hm9; exact absurd hm9 (Nat.not_lt_zero _)
    | succ n9 ih =>
      intro w_3 hm9 hI9 hL9 H locs hP hD hS ls hl
      have hI_3 := hI9
      refine lv_iload hx hb dX12_productOfDecimals_3 (lv_at hl 4 rfl) ?_
      refine lv_bipush (v := 80) hx hb dX12_productOfDecimals_5 (by decide) ?_
      refine lv_icmp_ge (tgt := 24) hx hb dX12_productOfDecimals_7 (by decide) (fun c_7 => ?_) (fun c_7 => ?_)
      · skip
        have hg9 : (w_3.1, w_3.2) = g_3 := by rw [← hL9]; simp only [LX12_productOfDecimals_3]; (try simp only [if_pos c_7])
        subst hg9
        exact K_3_0 _ _ hP hD hS ls (lv_sub hl [0, 1, 2, 3, 4] rfl)
      · skip
        refine lv_aload_n hx hb dX12_productOfDecimals_10 rfl (lv_at hl 0 rfl) ?_
        refine va_get (D := D) (ci := 12) (v := .ref a_mmade) (C := RX12) (T := TX12) (N := 26) hx hb hts in_X12 hown hK hP 0 rfl rfl 23 (by decide) q_0 (fun _ h9 => h9) rfl dX12_productOfDecimals_11 ?_
        refine lv_iload hx hb dX12_productOfDecimals_14 (lv_at hl 4 rfl) ?_
        refine lv_iconst (v := 0) hx hb dX12_productOfDecimals_16 (by decide) ?_
        refine va_iast hx hb hK hP hD hS 4 0 rfl rfl (by first | with_reducible assumption | exact vin_of (b := 80) (by decide) (by with_reducible assumption) (by with_reducible assumption) | exact vin_of (b := 80) (by decide) (Int32.not_lt.mp (by with_reducible assumption)) (by with_reducible assumption) | exact vin_dn (by decide) (by with_reducible assumption) hI9) dX12_productOfDecimals_17 (fun H locs hP hD hS => ?_)
        obtain ⟨f_17, ef_17⟩ : ∃ z : Nat → Int32, z = upd w_3.1 (w_3.2 : Int32).toNatClampNeg (0) := ⟨_, rfl⟩
        have hP : va_P D vwCl (wX12_productOfDecimals cI cB a_mo a_mem a_mks a_mr a_cnt a_wd a_one a_two a_mmade a_mrest a_old v_thrown v_mask v_key v_wait v_problem v_code v_length v_cond v_masks v_addr v_mwanted v_wrong v_after v_calls v_oneB v_twoB v_mF v_oneF v_twoF (upd w_3.1 (w_3.2 : Int32).toNatClampNeg (0))) H := hP
        have hD : va_D A (wX12_productOfDecimals cI cB a_mo a_mem a_mks a_mr a_cnt a_wd a_one a_two a_mmade a_mrest a_old v_thrown v_mask v_key v_wait v_problem v_code v_length v_cond v_masks v_addr v_mwanted v_wrong v_after v_calls v_oneB v_twoB v_mF v_oneF v_twoF (upd w_3.1 (w_3.2 : Int32).toNatClampNeg (0))) := hD
        rw [← ef_17] at hP hD
        obtain ⟨x_18, ex_18⟩ : ∃ z : Int32, z = w_3.2 + 1 := ⟨_, rfl⟩
        refine lv_iinc (v := x_18) (lv' := [(4, .int x_18), (0, .ref a_mo), (1, .int x0), (2, .int x1), (3, .int x2)]) hx hb dX12_productOfDecimals_18 hl (k := 4) rfl (by rw [ex_18]; rfl) (by decide) rfl (fun ls hl => ?_)
        refine lv_goto (tgt := 3) hx hb dX12_productOfDecimals_21 (by decide) ?_
        exact ih (f_17, x_18) (by subst ex_18; subst ef_17;  exact Nat.lt_of_lt_of_le (ms_up c_7) (Nat.le_of_lt_succ hm9)) (by subst ex_18; subst ef_17;  exact nn_up hI9 c_7) (by rw [← hL9]; subst ex_18; subst ef_17; simp only [LX12_productOfDecimals_3]; (try simp only [if_neg c_7])) _ _ hP hD hS ls (lv_sub hl [1, 2, 3, 4, 0] rfl)
  exact lp_3 (msU 80 0 + 1) (v_mmF, 0) (Nat.lt_succ_self _) (by show (0 : Int32) ≤ 0; decide) eg_3.symm _ _ hP hD hS ls (lv_sub hl [1, 2, 3, 4, 0] rfl)
theorem hdX12_productOfDecimals : yX12_productOfDecimals.cls = RX12 ∧ yX12_productOfDecimals.cls ≠ "java/lang/invoke/MethodHandle" ∧ yX12_productOfDecimals.cls ≠ "java/lang/invoke/VarHandle" ∧ (parseMethodDescriptor yX12_productOfDecimals.desc).map (fun d => d.parameters.length) = some 3 := by decide +kernel
noncomputable def LX12_toDecimal_32 : Nat → ((Nat → Int32) × Int64 × Int32) → ((Nat → Int32) × Int64 × Int32)
  | 0, w_32 => w_32
  | n9 + 1, w_32 =>
    if 80 ≤ w_32.2.2 then ((w_32.1, w_32.2.1, w_32.2.2)) else (let f_51 := upd w_32.1 (w_32.2.2 : Int32).toNatClampNeg (((w_32.2.1 - w_32.2.1 / 10 * 10) : Int64).toInt32); let x_57 := (w_32.2.1 / 10); let x_58 := w_32.2.2 + 1; LX12_toDecimal_32 n9 (f_51, x_57, x_58))
noncomputable def fX12_toDecimal (x0 : Int32) (x1 : Int32) (v_key : Int32) (v_wrong : Int32) (v_mF : (Nat → Int32)) (v_mkF : (Nat → Int32)) (v_mmF : (Nat → Int32)) : (Int32 × (Nat → Int32) × (Nat → Int32)) :=
  let u_5 := fX12_look x0 8 1 v_key v_wrong v_mkF
  let u_12 := fX12_even x0 8 u_5
  if u_12 ≤ 0 then (let x_28 := (if 0 < (x1 : Int32).toInt64 then (x1 : Int32).toInt64 else -(x1 : Int32).toInt64); let g_32 := LX12_toDecimal_32  (msU 80 0 + 1) (v_mmF, x_28, 0); let m_77 : Int32 := (if 0 ≤ x1 then (0) else (1)); let p_78 := fX12_putDecimal x0 8 m_77 0 v_mF g_32.1; let r_78 := p_78.1; let u_78 := p_78.2; (u_12, u_78, g_32.1)) else ((u_12, v_mF, v_mmF))
abbrev wX12_toDecimal (cI cB : ClassId) (a_mo a_mem a_mks a_mr a_cnt a_wd a_one a_two a_mmade a_mrest a_old : Nat) (v_thrown : Int32) (v_mask : Int32) (v_key : Int32) (v_wait : Int32) (v_problem : Int32) (v_code : Int32) (v_length : Int32) (v_cond : Int32) (v_masks : Int32) (v_addr : Int32) (v_mwanted : Int32) (v_wrong : Int32) (v_after : Int32) (v_calls : Int32) (v_oneB : Int32) (v_twoB : Int32) (v_mF : (Nat → Int32)) (v_mkF : (Nat → Int32)) (v_mmF : (Nat → Int32)) : va_W := [(a_mo, .inr (12, [.int v_thrown, .ref a_mem, .ref a_mks, .ref a_mr, .int v_mask, .int v_key, .int v_wait, .int v_problem, .int v_code, .int v_length, .int v_cond, .int v_masks, .int v_addr, .int v_mwanted, .ref a_cnt, .ref a_wd, .int v_wrong, .int v_after, .int v_calls, .ref a_one, .int v_oneB, .ref a_two, .int v_twoB, .ref a_mmade, .ref a_mrest, .ref a_old])), (a_mem, .inl (cI, 8192, .inl v_mF)), (a_mks, .inl (cI, 4, .inl v_mkF)), (a_mmade, .inl (cI, 80, .inl v_mmF))]
abbrev rmX12_toDecimal : Room := { frames := 2, cells := 0, slots := 0, locals := 48 }
abbrev qX12_toDecimal (D : va_G) (cI cB : ClassId) (a_mo a_mem a_mks a_mr a_cnt a_wd a_one a_two a_mmade a_mrest a_old : Nat) (v_thrown : Int32) (v_mask : Int32) (v_key : Int32) (v_wait : Int32) (v_problem : Int32) (v_code : Int32) (v_length : Int32) (v_cond : Int32) (v_masks : Int32) (v_addr : Int32) (v_mwanted : Int32) (v_wrong : Int32) (v_after : Int32) (v_calls : Int32) (v_oneB : Int32) (v_twoB : Int32) (v_mF : (Nat → Int32)) (v_mkF : (Nat → Int32)) (v_mmF : (Nat → Int32)) (x0 : Int32) (x1 : Int32) : (Nat → Prop) → Array Value → State → Outcome → State → Prop := fun A9 => va_Qv (fun (u9 : (Int32 × (Nat → Int32) × (Nat → Int32))) => u9 = fX12_toDecimal x0 x1 v_key v_wrong v_mF v_mkF v_mmF) (fun u9 t9 => atW D (TYS cI cB) A9 (wX12_toDecimal cI cB a_mo a_mem a_mks a_mr a_cnt a_wd a_one a_two a_mmade a_mrest a_old v_thrown v_mask v_key v_wait v_problem v_code v_length v_cond v_masks v_addr v_mwanted u9.1 v_after v_calls v_oneB v_twoB u9.2.1 v_mkF u9.2.2) t9) A9
set_option maxHeartbeats 4000000 in
set_option maxRecDepth 100000 in
theorem kX12_toDecimal (l : Launch) (D : va_G) (cI cB : ClassId) (a_mo a_mem a_mks a_mr a_cnt a_wd a_one a_two a_mmade a_mrest a_old : Nat) (sz : Nat) (v_thrown : Int32) (v_mask : Int32) (v_key : Int32) (v_wait : Int32) (v_problem : Int32) (v_code : Int32) (v_length : Int32) (v_cond : Int32) (v_masks : Int32) (v_addr : Int32) (v_mwanted : Int32) (v_wrong : Int32) (v_after : Int32) (v_calls : Int32) (v_oneB : Int32) (v_twoB : Int32) (v_mF : (Nat → Int32)) (v_mkF : (Nat → Int32)) (v_mmF : (Nat → Int32)) (x0 : Int32) (x1 : Int32) (ha : in24 x0) (hw : 0 ≤ v_wrong) : MetW l yX12_toDecimal (WK yX12_toDecimal cX12_toDecimal 6 none) rmX12_toDecimal D (TYS cI cB) (wX12_toDecimal cI cB a_mo a_mem a_mks a_mr a_cnt a_wd a_one a_two a_mmade a_mrest a_old v_thrown v_mask v_key v_wait v_problem v_code v_length v_cond v_masks v_addr v_mwanted v_wrong v_after v_calls v_oneB v_twoB v_mF v_mkF v_mmF) sz [.ref a_mo, .int x0, .int x1] (qX12_toDecimal D cI cB a_mo a_mem a_mks a_mr a_cnt a_wd a_one a_two a_mmade a_mrest a_old v_thrown v_mask v_key v_wait v_problem v_code v_length v_cond v_masks v_addr v_mwanted v_wrong v_after v_calls v_oneB v_twoB v_mF v_mkF v_mmF x0 x1) 0 0 := by
  refine met_std (by decide) rfl (Nat.le_of_ble_eq_true rfl) ?_
  intro p e s m below meth c A ls H hx hb hr hml hown hts hlocks hA hP hK hD hS hNW hl
  have hl : lv_has ls 6 [(0, .ref a_mo), (1, .int x0), (2, .int x1)] := hl
  have q_0 := hts _ (List.mem_cons_of_mem _ wd_836)
  have q_1 := hts _ (List.mem_cons_of_mem _ wd_928)
  have q_2 := hts _ (List.mem_cons_of_mem _ wd_165)
  have q_3 := hts _ (List.mem_cons_of_mem _ wd_156)
  have q_4 := hts _ (List.mem_cons_of_mem _ wd_166)
  have q_5 := hts _ (List.mem_cons_of_mem _ wd_784)
  have q_6 := hts _ (List.mem_cons_of_mem _ wd_929)
  refine lv_aload_n hx hb dX12_toDecimal_0 rfl (lv_at hl 0 rfl) ?_
  refine lv_iload_n hx hb dX12_toDecimal_1 rfl (lv_at hl 1 rfl) ?_
  refine lv_bipush (v := 8) hx hb dX12_toDecimal_2 (by decide) ?_
  refine lv_iconst (v := 1) hx hb dX12_toDecimal_4 (by decide) ?_
  have hPc : va_P D vwCl (wX12_look cI cB a_mo a_mem a_mks a_mr a_cnt a_wd a_one a_two a_mmade a_mrest a_old v_thrown v_mask v_key v_wait v_problem v_code v_length v_cond v_masks v_addr v_mwanted v_wrong v_after v_calls v_oneB v_twoB v_mkF) H := hP.sub [0, 2] rfl
  have hDc : va_D A (wX12_look cI cB a_mo a_mem a_mks a_mr a_cnt a_wd a_one a_two a_mmade a_mrest a_old v_thrown v_mask v_key v_wait v_problem v_code v_length v_cond v_masks v_addr v_mwanted v_wrong v_after v_calls v_oneB v_twoB v_mkF) := hD.sub [0, 2] (by decide) rfl
  have hFc := va_free (wc := (wX12_look cI cB a_mo a_mem a_mks a_mr a_cnt a_wd a_one a_two a_mmade a_mrest a_old v_thrown v_mask v_key v_wait v_problem v_code v_length v_cond v_masks v_addr v_mwanted v_wrong v_after v_calls v_oneB v_twoB v_mkF)) hD hS hA [0, 2] rfl
  refine va_callv (va_runV (As := [.int x0, .int 8, .int 1]) (rest := []) ⟨hx, hb, hml, hown, hts⟩ (kX12_look l D cI cB a_mo a_mem a_mks a_mr a_cnt a_wd a_one a_two a_mmade a_mrest a_old H.size v_thrown v_mask v_key v_wait v_problem v_code v_length v_cond v_masks v_addr v_mwanted v_wrong v_after v_calls v_oneB v_twoB v_mkF x0 8 1) (cwV 3 hts (gd_V wd_857 wd_858 wd_859 wd_807 wd_837) rfl rfl rfl hdX12_look ⟨Nat.le_of_ble_eq_true rfl, Nat.le_of_ble_eq_true rfl⟩) (preV_std (ci := 12) (q0 := 0) hPc hK hDc hNW rfl rfl) rfl rfl hl.1 rfl (lv_room (Nat.le_of_ble_eq_true rfl)) dX12_toDecimal_5 ⟨Nat.zero_le _, Nat.zero_le _⟩) hS (fun q _ h => hFc q h) hFc (fun u_5 t9 H1 locs ht9 hvm9 hw9 hB9 hz9 hk9 hS => ?_)
  have eu_5 : u_5 = fX12_look x0 8 1 v_key v_wrong v_mkF := hw9
  obtain ⟨hP, hD⟩ := back_std (w1 := (wX12_look cI cB a_mo a_mem a_mks a_mr a_cnt a_wd a_one a_two a_mmade a_mrest a_old v_thrown v_mask v_key v_wait v_problem v_code v_length v_cond v_masks v_addr v_mwanted u_5 v_after v_calls v_oneB v_twoB v_mkF)) (w2 := (wX12_toDecimal cI cB a_mo a_mem a_mks a_mr a_cnt a_wd a_one a_two a_mmade a_mrest a_old v_thrown v_mask v_key v_wait v_problem v_code v_length v_cond v_masks v_addr v_mwanted u_5 v_after v_calls v_oneB v_twoB v_mF v_mkF v_mmF)) (wr := [(a_mem, .inl (cI, 8192, .inl v_mF)), (a_mmade, .inl (cI, 80, .inl v_mmF))]) hP hD [0, 2] [1, 3] [2, 0, 3, 1] rfl rfl (by decide) (by decide) hk9 hFc hB9 ht9 (by decide) rfl
  clear hB9 hk9 hz9 hvm9 ht9 hFc hPc hDc
  generalize H1 = H at hP hS ⊢
  refine lv_aload_n hx hb dX12_toDecimal_8 rfl (lv_at hl 0 rfl) ?_
  refine lv_iload_n hx hb dX12_toDecimal_9 rfl (lv_at hl 1 rfl) ?_
  refine lv_bipush (v := 8) hx hb dX12_toDecimal_10 (by decide) ?_
  have hPc : va_P D vwCl (wX12_even cI cB a_mo a_mem a_mks a_mr a_cnt a_wd a_one a_two a_mmade a_mrest a_old v_thrown v_mask v_key v_wait v_problem v_code v_length v_cond v_masks v_addr v_mwanted u_5 v_after v_calls v_oneB v_twoB) H := hP.sub [0] rfl
  have hDc : va_D A (wX12_even cI cB a_mo a_mem a_mks a_mr a_cnt a_wd a_one a_two a_mmade a_mrest a_old v_thrown v_mask v_key v_wait v_problem v_code v_length v_cond v_masks v_addr v_mwanted u_5 v_after v_calls v_oneB v_twoB) := hD.sub [0] (by decide) rfl
  have hFc := va_free (wc := (wX12_even cI cB a_mo a_mem a_mks a_mr a_cnt a_wd a_one a_two a_mmade a_mrest a_old v_thrown v_mask v_key v_wait v_problem v_code v_length v_cond v_masks v_addr v_mwanted u_5 v_after v_calls v_oneB v_twoB)) hD hS hA [0] rfl
  refine va_callv (va_runV (As := [.int x0, .int 8]) (rest := []) ⟨hx, hb, hml, hown, hts⟩ (kX12_even l D cI cB a_mo a_mem a_mks a_mr a_cnt a_wd a_one a_two a_mmade a_mrest a_old H.size v_thrown v_mask v_key v_wait v_problem v_code v_length v_cond v_masks v_addr v_mwanted u_5 v_after v_calls v_oneB v_twoB x0 8 (by first | with_reducible assumption | decide | (unfold vp_in; decide))) (cwV 2 hts (gd_V wd_860 wd_861 wd_862 wd_807 wd_841) rfl rfl rfl hdX12_even ⟨Nat.le_of_ble_eq_true rfl, Nat.le_of_ble_eq_true rfl⟩) (preV_std (ci := 12) (q0 := 0) hPc hK hDc hNW rfl rfl) rfl rfl hl.1 rfl (lv_room (Nat.le_of_ble_eq_true rfl)) dX12_toDecimal_12 ⟨Nat.zero_le _, Nat.zero_le _⟩) hS (fun q _ h => hFc q h) hFc (fun u_12 t9 H1 locs ht9 hvm9 hw9 hB9 hz9 hk9 hS => ?_)
  have eu_12 : u_12 = fX12_even x0 8 u_5 := hw9
  obtain ⟨hP, hD⟩ := back_std (w1 := (wX12_even cI cB a_mo a_mem a_mks a_mr a_cnt a_wd a_one a_two a_mmade a_mrest a_old v_thrown v_mask v_key v_wait v_problem v_code v_length v_cond v_masks v_addr v_mwanted u_12 v_after v_calls v_oneB v_twoB)) (w2 := (wX12_toDecimal cI cB a_mo a_mem a_mks a_mr a_cnt a_wd a_one a_two a_mmade a_mrest a_old v_thrown v_mask v_key v_wait v_problem v_code v_length v_cond v_masks v_addr v_mwanted u_12 v_after v_calls v_oneB v_twoB v_mF v_mkF v_mmF)) (wr := [(a_mem, .inl (cI, 8192, .inl v_mF)), (a_mks, .inl (cI, 4, .inl v_mkF)), (a_mmade, .inl (cI, 80, .inl v_mmF))]) hP hD [0] [1, 2, 3] [3, 0, 1, 2] rfl rfl (by decide) (by decide) hk9 hFc hB9 ht9 (by decide) rfl
  clear hB9 hk9 hz9 hvm9 ht9 hFc hPc hDc
  generalize H1 = H at hP hS ⊢
  refine lv_aload_n hx hb dX12_toDecimal_15 rfl (lv_at hl 0 rfl) ?_
  refine va_get (D := D) (ci := 12) (v := .int u_12) (C := RX12) (T := TX12) (N := 26) hx hb hts in_X12 hown hK hP 0 rfl rfl 16 (by decide) q_0 (fun _ h9 => h9) rfl dX12_toDecimal_16 ?_
  refine lv_if_le (tgt := 23) hx hb dX12_toDecimal_19 (by decide) (fun c_19 => ?_) (fun c_19 => ?_)
  · skip
    refine lv_iload_n hx hb dX12_toDecimal_23 rfl (lv_at hl 2 rfl) ?_
    refine lv_i2l hx hb dX12_toDecimal_24 rfl ?_
    refine va_mabs_long hx hb (hml.trans hl.1.symm) hown q_1 q_2 q_3 q_4 (Nat.le_of_ble_eq_true rfl) (Nat.le_of_ble_eq_true rfl) (Nat.zero_le _) (Nat.zero_le _) dX12_toDecimal_25 ?_
    refine lv_topl (fun x_28 ex_28 => ?_)
    refine lv_lstore_n (lv' := [(3, .long x_28), (0, .ref a_mo), (1, .int x0), (2, .int x1)]) hx hb dX12_toDecimal_28 rfl hl (by decide) rfl (fun ls hl => ?_)
    refine lv_iconst (v := 0) hx hb dX12_toDecimal_29 (by decide) ?_
    refine lv_istore (lv' := [(5, .int 0), (3, .long x_28), (0, .ref a_mo), (1, .int x0), (2, .int x1)]) hx hb dX12_toDecimal_30 hl (by decide) rfl (fun ls hl => ?_)
    obtain ⟨g_32, eg_32⟩ : ∃ z : ((Nat → Int32) × Int64 × Int32), z = LX12_toDecimal_32  (msU 80 0 + 1) (v_mmF, x_28, 0) := ⟨_, rfl⟩
    have K_32_0 : ∀ (H : Heap) (locs : List Loc), va_P D vwCl (wX12_toDecimal cI cB a_mo a_mem a_mks a_mr a_cnt a_wd a_one a_two a_mmade a_mrest a_old v_thrown v_mask v_key v_wait v_problem v_code v_length v_cond v_masks v_addr v_mwanted u_12 v_after v_calls v_oneB v_twoB v_mF v_mkF g_32.1) H → va_D A (wX12_toDecimal cI cB a_mo a_mem a_mks a_mr a_cnt a_wd a_one a_two a_mmade a_mrest a_old v_thrown v_mask v_key v_wait v_problem v_code v_length v_cond v_masks v_addr v_mwanted u_12 v_after v_calls v_oneB v_twoB v_mF v_mkF g_32.1) → va_S A s.heap H locs → ∀ (ls : Array Slot), lv_has ls 6 [(0, .ref a_mo), (1, .int x0), (2, .int x1), (3, .long g_32.2.1), (5, .int g_32.2.2)] → W p l e rmX12_toDecimal s m ([.ref a_mo, .int x0, .int x1] : List Value).toArray below meth c H locs 0 0 (MQ below (qX12_toDecimal D cI cB a_mo a_mem a_mks a_mr a_cnt a_wd a_one a_two a_mmade a_mrest a_old v_thrown v_mask v_key v_wait v_problem v_code v_length v_cond v_masks v_addr v_mwanted v_wrong v_after v_calls v_oneB v_twoB v_mF v_mkF v_mmF x0 x1 A) ([.ref a_mo, .int x0, .int x1] : List Value).toArray s 0 0 A) (F0 m 64 ls []) := by
      intro H locs hP hD hS ls hl
      refine lv_aload_n hx hb dX12_toDecimal_64 rfl (lv_at hl 0 rfl) ?_
      refine lv_iload_n hx hb dX12_toDecimal_65 rfl (lv_at hl 1 rfl) ?_
      refine lv_bipush (v := 8) hx hb dX12_toDecimal_66 (by decide) ?_
      refine lv_iload_n hx hb dX12_toDecimal_68 rfl (lv_at hl 2 rfl) ?_
      have J_77 : ∀ (m_77 : Int32), m_77 = (if 0 ≤ x1 then (0) else (1)) → ∀ (H : Heap) (locs : List Loc), va_P D vwCl (wX12_toDecimal cI cB a_mo a_mem a_mks a_mr a_cnt a_wd a_one a_two a_mmade a_mrest a_old v_thrown v_mask v_key v_wait v_problem v_code v_length v_cond v_masks v_addr v_mwanted u_12 v_after v_calls v_oneB v_twoB v_mF v_mkF g_32.1) H → va_D A (wX12_toDecimal cI cB a_mo a_mem a_mks a_mr a_cnt a_wd a_one a_two a_mmade a_mrest a_old v_thrown v_mask v_key v_wait v_problem v_code v_length v_cond v_masks v_addr v_mwanted u_12 v_after v_calls v_oneB v_twoB v_mF v_mkF g_32.1) → va_S A s.heap H locs → ∀ (ls : Array Slot), lv_has ls 6 [(0, .ref a_mo), (1, .int x0), (2, .int x1), (3, .long g_32.2.1), (5, .int g_32.2.2)] → W p l e rmX12_toDecimal s m ([.ref a_mo, .int x0, .int x1] : List Value).toArray below meth c H locs 0 0 (MQ below (qX12_toDecimal D cI cB a_mo a_mem a_mks a_mr a_cnt a_wd a_one a_two a_mmade a_mrest a_old v_thrown v_mask v_key v_wait v_problem v_code v_length v_cond v_masks v_addr v_mwanted v_wrong v_after v_calls v_oneB v_twoB v_mF v_mkF v_mmF x0 x1 A) ([.ref a_mo, .int x0, .int x1] : List Value).toArray s 0 0 A) (F0 m 77 ls [.int m_77, .int 8, .int x0, .ref a_mo]) := by
        intro m_77 em_77 H locs hP hD hS ls hl
        try dsimp only at em_77
        have zm_77_0 : m_77 = 0 ∨ m_77 = 1 := by rw [em_77]; (try dsimp only); (repeat' split) <;> first | exact Or.inl rfl | exact Or.inr rfl
        refine lv_iconst (v := 0) hx hb dX12_toDecimal_77 (by decide) ?_
        have hPc : va_P D vwCl (wX12_putDecimal cI cB a_mo a_mem a_mks a_mr a_cnt a_wd a_one a_two a_mmade a_mrest a_old v_thrown v_mask v_key v_wait v_problem v_code v_length v_cond v_masks v_addr v_mwanted u_12 v_after v_calls v_oneB v_twoB v_mF g_32.1) H := hP.sub [0, 1, 3] rfl
        have hDc : va_D A (wX12_putDecimal cI cB a_mo a_mem a_mks a_mr a_cnt a_wd a_one a_two a_mmade a_mrest a_old v_thrown v_mask v_key v_wait v_problem v_code v_length v_cond v_masks v_addr v_mwanted u_12 v_after v_calls v_oneB v_twoB v_mF g_32.1) := hD.sub [0, 1, 3] (by decide) rfl
        have hFc := va_free (wc := (wX12_putDecimal cI cB a_mo a_mem a_mks a_mr a_cnt a_wd a_one a_two a_mmade a_mrest a_old v_thrown v_mask v_key v_wait v_problem v_code v_length v_cond v_masks v_addr v_mwanted u_12 v_after v_calls v_oneB v_twoB v_mF g_32.1)) hD hS hA [0, 1, 3] rfl
        refine va_calli (va_runV (As := [.int x0, .int 8, .int m_77, .int 0]) (rest := []) ⟨hx, hb, hml, hown, hts⟩ (kX12_putDecimal l D cI cB a_mo a_mem a_mks a_mr a_cnt a_wd a_one a_two a_mmade a_mrest a_old H.size v_thrown v_mask v_key v_wait v_problem v_code v_length v_cond v_masks v_addr v_mwanted u_12 v_after v_calls v_oneB v_twoB v_mF g_32.1 x0 8 m_77 0 ⟨by decide, by decide⟩ (op_in ha (Or.inr (Or.inr (Or.inr rfl))) hw eu_5 eu_12 (nle_pos c_19))) (cwV 4 hts (gd_V wd_897 wd_898 wd_899 wd_807 wd_893) rfl rfl rfl hdX12_putDecimal ⟨Nat.le_of_ble_eq_true rfl, Nat.le_of_ble_eq_true rfl⟩) (preV_std (ci := 12) (q0 := 0) hPc hK hDc hNW rfl rfl) rfl rfl hl.1 rfl (lv_room (Nat.le_of_ble_eq_true rfl)) dX12_toDecimal_78 ⟨Nat.zero_le _, Nat.zero_le _⟩) hS (fun q _ h => hFc q h) hFc (fun r_78 u_78 t9 H1 locs ht9 hvm9 hw9 hB9 hz9 hk9 hS => ?_)
        obtain ⟨er_78, eu_78⟩ := hw9
        have zr_78 : r_78 = 0 ∨ r_78 = 1 := by rw [er_78]; exact zX12_putDecimal _ _ _ _ _ _
        obtain ⟨hP, hD⟩ := back_std (w1 := (wX12_putDecimal cI cB a_mo a_mem a_mks a_mr a_cnt a_wd a_one a_two a_mmade a_mrest a_old v_thrown v_mask v_key v_wait v_problem v_code v_length v_cond v_masks v_addr v_mwanted u_12 v_after v_calls v_oneB v_twoB u_78 g_32.1)) (w2 := (wX12_toDecimal cI cB a_mo a_mem a_mks a_mr a_cnt a_wd a_one a_two a_mmade a_mrest a_old v_thrown v_mask v_key v_wait v_problem v_code v_length v_cond v_masks v_addr v_mwanted u_12 v_after v_calls v_oneB v_twoB u_78 v_mkF g_32.1)) (wr := [(a_mks, .inl (cI, 4, .inl v_mkF))]) hP hD [0, 1, 3] [2] [1, 2, 0, 3] rfl rfl (by decide) (by decide) hk9 hFc hB9 ht9 (by decide) rfl
        clear hB9 hk9 hz9 hvm9 ht9 hFc hPc hDc
        generalize H1 = H at hP hS ⊢
        refine lv_istore (lv' := [(5, .int r_78), (0, .ref a_mo), (1, .int x0), (2, .int x1), (3, .long g_32.2.1)]) hx hb dX12_toDecimal_81 hl (by decide) rfl (fun ls hl => ?_)
        have hf9 : (u_12, u_78, g_32.1) = fX12_toDecimal x0 x1 v_key v_wrong v_mF v_mkF v_mmF := by subst ex_28; simp only [fX12_toDecimal, ← eu_5, ← eu_12, ← eg_32, ← em_77, ← er_78, ← eu_78]; (try simp only [if_pos c_19])
        exact W.vret hx hb hr (fun t9 ht9 hW9 => ⟨⟨(u_12, u_78, g_32.1), rfl, hf9, ⟨by rw [ht9]; exact hP, va_K.moved hW9.alike hK, hD⟩⟩, hS.F ht9⟩) hS.2.2 dX12_toDecimal_83
      refine lv_if_ge (tgt := 76) hx hb dX12_toDecimal_69 (by decide) (fun c_69 => ?_) (fun c_69 => ?_)
      · skip
        refine lv_iconst (v := 0) hx hb dX12_toDecimal_76 (by decide) ?_
        exact J_77 0 (by (try simp only [if_pos c_69])) _ _ hP hD hS ls (lv_sub hl [0, 1, 2, 3, 4] rfl)
      · skip
        refine lv_iconst (v := 1) hx hb dX12_toDecimal_72 (by decide) ?_
        refine lv_goto (tgt := 77) hx hb dX12_toDecimal_73 (by decide) ?_
        exact J_77 1 (by (try simp only [if_neg c_69])) _ _ hP hD hS ls (lv_sub hl [0, 1, 2, 3, 4] rfl)
    have lp_32 : ∀ (n9 : Nat) (w_32 : ((Nat → Int32) × Int64 × Int32)), msU 80 w_32.2.2 < n9 → 0 ≤ w_32.2.2 → LX12_toDecimal_32  n9 w_32 = g_32 → ∀ (H : Heap) (locs : List Loc), va_P D vwCl (wX12_toDecimal cI cB a_mo a_mem a_mks a_mr a_cnt a_wd a_one a_two a_mmade a_mrest a_old v_thrown v_mask v_key v_wait v_problem v_code v_length v_cond v_masks v_addr v_mwanted u_12 v_after v_calls v_oneB v_twoB v_mF v_mkF w_32.1) H → va_D A (wX12_toDecimal cI cB a_mo a_mem a_mks a_mr a_cnt a_wd a_one a_two a_mmade a_mrest a_old v_thrown v_mask v_key v_wait v_problem v_code v_length v_cond v_masks v_addr v_mwanted u_12 v_after v_calls v_oneB v_twoB v_mF v_mkF w_32.1) → va_S A s.heap H locs → ∀ (ls : Array Slot), lv_has ls 6 [(0, .ref a_mo), (1, .int x0), (2, .int x1), (3, .long w_32.2.1), (5, .int w_32.2.2)] → W p l e rmX12_toDecimal s m ([.ref a_mo, .int x0, .int x1] : List Value).toArray below meth c H locs 0 0 (MQ below (qX12_toDecimal D cI cB a_mo a_mem a_mks a_mr a_cnt a_wd a_one a_two a_mmade a_mrest a_old v_thrown v_mask v_key v_wait v_problem v_code v_length v_cond v_masks v_addr v_mwanted v_wrong v_after v_calls v_oneB v_twoB v_mF v_mkF v_mmF x0 x1 A) ([.ref a_mo, .int x0, .int x1] : List Value).toArray s 0 0 A) (F0 m 32 ls []) := by
      intro n9
      induction n9 with
      | zero => intro w_32 hm9; exact absurd hm9 (Nat.not_lt_zero _)
      | succ n9 ih =>
        intro w_32 hm9 hI9 hL9 H locs hP hD hS ls hl
        have hI_32 := hI9
        refine lv_iload hx hb dX12_toDecimal_32 (lv_at hl 4 rfl) ?_
        refine lv_bipush (v := 80) hx hb dX12_toDecimal_34 (by decide) ?_
        refine lv_icmp_ge (tgt := 64) hx hb dX12_toDecimal_36 (by decide) (fun c_36 => ?_) (fun c_36 => ?_)
        · skip
          have hg9 : (w_32.1, w_32.2.1, w_32.2.2) = g_32 := by rw [← hL9]; simp only [LX12_toDecimal_32]; (try simp only [if_pos c_36])
          subst hg9
          exact K_32_0 _ _ hP hD hS ls (lv_sub hl [0, 1, 2, 3, 4] rfl)
        · skip
          refine lv_aload_n hx hb dX12_toDecimal_39 rfl (lv_at hl 0 rfl) ?_
          refine va_get (D := D) (ci := 12) (v := .ref a_mmade) (C := RX12) (T := TX12) (N := 26) hx hb hts in_X12 hown hK hP 0 rfl rfl 23 (by decide) q_5 (fun _ h9 => h9) rfl dX12_toDecimal_40 ?_
          refine lv_iload hx hb dX12_toDecimal_43 (lv_at hl 4 rfl) ?_
          refine lv_lload_n hx hb dX12_toDecimal_45 rfl (lv_at hl 3 rfl) ?_
          refine lv_ldc2 (v := 10) hx hb hown q_6 dX12_toDecimal_46 ?_
          refine lv_lrem hx hb dX12_toDecimal_49 (by decide) ?_
          refine lv_l2i hx hb dX12_toDecimal_50 rfl ?_
          refine va_iast hx hb hK hP hD hS 3 0 rfl rfl (by first | with_reducible assumption | exact vin_of (b := 80) (by decide) (by with_reducible assumption) (by with_reducible assumption) | exact vin_of (b := 80) (by decide) (Int32.not_lt.mp (by with_reducible assumption)) (by with_reducible assumption) | exact vin_dn (by decide) (by with_reducible assumption) hI9) dX12_toDecimal_51 (fun H locs hP hD hS => ?_)
          obtain ⟨f_51, ef_51⟩ : ∃ z : Nat → Int32, z = upd w_32.1 (w_32.2.2 : Int32).toNatClampNeg (((w_32.2.1 - w_32.2.1 / 10 * 10) : Int64).toInt32) := ⟨_, rfl⟩
          have hP : va_P D vwCl (wX12_toDecimal cI cB a_mo a_mem a_mks a_mr a_cnt a_wd a_one a_two a_mmade a_mrest a_old v_thrown v_mask v_key v_wait v_problem v_code v_length v_cond v_masks v_addr v_mwanted u_12 v_after v_calls v_oneB v_twoB v_mF v_mkF (upd w_32.1 (w_32.2.2 : Int32).toNatClampNeg (((w_32.2.1 - w_32.2.1 / 10 * 10) : Int64).toInt32))) H := hP
          have hD : va_D A (wX12_toDecimal cI cB a_mo a_mem a_mks a_mr a_cnt a_wd a_one a_two a_mmade a_mrest a_old v_thrown v_mask v_key v_wait v_problem v_code v_length v_cond v_masks v_addr v_mwanted u_12 v_after v_calls v_oneB v_twoB v_mF v_mkF (upd w_32.1 (w_32.2.2 : Int32).toNatClampNeg (((w_32.2.1 - w_32.2.1 / 10 * 10) : Int64).toInt32))) := hD
          rw [← ef_51] at hP hD
          refine lv_lload_n hx hb dX12_toDecimal_52 rfl (lv_at hl 3 rfl) ?_
          refine lv_ldc2 (v := 10) hx hb hown q_6 dX12_toDecimal_53 ?_
          refine lv_ldiv hx hb dX12_toDecimal_56 (by decide) ?_
          refine lv_topl (fun x_57 ex_57 => ?_)
          refine lv_lstore_n (lv' := [(3, .long x_57), (0, .ref a_mo), (1, .int x0), (2, .int x1), (5, .int w_32.2.2)]) hx hb dX12_toDecimal_57 rfl hl (by decide) rfl (fun ls hl => ?_)
          obtain ⟨x_58, ex_58⟩ : ∃ z : Int32, z = w_32.2.2 + 1 := ⟨_, rfl⟩
          refine lv_iinc (v := x_58) (lv' := [(5, .int x_58), (3, .long x_57), (0, .ref a_mo), (1, .int x0), (2, .int x1)]) hx hb dX12_toDecimal_58 hl (k := 4) rfl (by rw [ex_58]; rfl) (by decide) rfl (fun ls hl => ?_)
          refine lv_goto (tgt := 32) hx hb dX12_toDecimal_61 (by decide) ?_
          exact ih (f_51, x_57, x_58) (by subst ex_58; subst ex_57; subst ef_51;  exact Nat.lt_of_lt_of_le (ms_up c_36) (Nat.le_of_lt_succ hm9)) (by subst ex_58; subst ex_57; subst ef_51;  exact nn_up hI9 c_36) (by rw [← hL9]; subst ex_58; subst ex_57; subst ef_51; simp only [LX12_toDecimal_32]; (try simp only [if_neg c_36])) _ _ hP hD hS ls (lv_sub hl [2, 3, 4, 1, 0] rfl)
    exact lp_32 (msU 80 0 + 1) (v_mmF, x_28, 0) (Nat.lt_succ_self _) (by show (0 : Int32) ≤ 0; decide) eg_32.symm _ _ hP hD hS ls (lv_sub hl [2, 3, 4, 1, 0] rfl)
  · skip
    have hf9 : (u_12, v_mF, v_mmF) = fX12_toDecimal x0 x1 v_key v_wrong v_mF v_mkF v_mmF := by simp only [fX12_toDecimal, ← eu_5, ← eu_12]; (try simp only [if_neg c_19])
    exact W.vret hx hb hr (fun t9 ht9 hW9 => ⟨⟨(u_12, v_mF, v_mmF), rfl, hf9, ⟨by rw [ht9]; exact hP, va_K.moved hW9.alike hK, hD⟩⟩, hS.F ht9⟩) hS.2.2 dX12_toDecimal_22
theorem hdX12_toDecimal : yX12_toDecimal.cls = RX12 ∧ yX12_toDecimal.cls ≠ "java/lang/invoke/MethodHandle" ∧ yX12_toDecimal.cls ≠ "java/lang/invoke/VarHandle" ∧ (parseMethodDescriptor yX12_toDecimal.desc).map (fun d => d.parameters.length) = some 2 := by decide +kernel
noncomputable def LX12_fromDecimal_37 (u_20 : (Int32 × Int32 × Int32 × (Nat → Int32) × (Nat → Int32))) : Nat → (Int64 × Int32) → (Int64 × Int32)
  | 0, w_37 => w_37
  | n9 + 1, w_37 =>
    if w_37.2 < 0 then ((w_37.1, w_37.2)) else (let x_56 := ((w_37.1 * 10) + ((u_20.2.2.2.1 (w_37.2 : Int32).toNatClampNeg) : Int32).toInt64); let x_57 := w_37.2 + (-1); LX12_fromDecimal_37 u_20 n9 (x_56, x_57))
noncomputable def fX12_fromDecimal (x0 : Int32) (x1 : Int32) (v_key : Int32) (v_wrong : Int32) (v_oneB : Int32) (v_twoB : Int32) (v_mF : (Nat → Int32)) (v_mkF : (Nat → Int32)) (v_mrF : (Nat → Int32)) (v_oneF : (Nat → Int32)) (v_twoF : (Nat → Int32)) : (Int32 × Int32 × Int32 × (Nat → Int32) × (Nat → Int32) × (Nat → Int32)) :=
  let u_5 := fX12_look x1 8 0 v_key v_wrong v_mkF
  let u_12 := fX12_even x1 8 u_5
  let u_20 := fX12_takeDecimal x1 8 1 u_12 v_oneB v_twoB v_mF v_oneF v_twoF
  if u_20.1 ≤ 0 then (let g_37 := LX12_fromDecimal_37 u_20 (msD 14 + 1) (0, 14); let m_76 : Int64 := (if u_20.2.1 = 0 then (g_37.1) else ((-g_37.1))); if 0 < (lg_cmp (m_76) (2147483647)) then (let u_96 := fX12_meet 9 u_20.1; (u_96, u_20.2.1, u_20.2.2.1, v_mrF, u_20.2.2.2.1, u_20.2.2.2.2)) else (if 0 ≤ (lg_cmp (m_76) ((-2147483648))) then (let f_109 := upd v_mrF (x0 : Int32).toNatClampNeg ((m_76 : Int64).toInt32); (u_20.1, u_20.2.1, u_20.2.2.1, f_109, u_20.2.2.2.1, u_20.2.2.2.2)) else (let u_96 := fX12_meet 9 u_20.1; (u_96, u_20.2.1, u_20.2.2.1, v_mrF, u_20.2.2.2.1, u_20.2.2.2.2)))) else ((u_20.1, u_20.2.1, u_20.2.2.1, v_mrF, u_20.2.2.2.1, u_20.2.2.2.2))
abbrev wX12_fromDecimal (cI cB : ClassId) (a_mo a_mem a_mks a_mr a_cnt a_wd a_one a_two a_mmade a_mrest a_old : Nat) (v_thrown : Int32) (v_mask : Int32) (v_key : Int32) (v_wait : Int32) (v_problem : Int32) (v_code : Int32) (v_length : Int32) (v_cond : Int32) (v_masks : Int32) (v_addr : Int32) (v_mwanted : Int32) (v_wrong : Int32) (v_after : Int32) (v_calls : Int32) (v_oneB : Int32) (v_twoB : Int32) (v_mF : (Nat → Int32)) (v_mkF : (Nat → Int32)) (v_mrF : (Nat → Int32)) (v_oneF : (Nat → Int32)) (v_twoF : (Nat → Int32)) : va_W := [(a_mo, .inr (12, [.int v_thrown, .ref a_mem, .ref a_mks, .ref a_mr, .int v_mask, .int v_key, .int v_wait, .int v_problem, .int v_code, .int v_length, .int v_cond, .int v_masks, .int v_addr, .int v_mwanted, .ref a_cnt, .ref a_wd, .int v_wrong, .int v_after, .int v_calls, .ref a_one, .int v_oneB, .ref a_two, .int v_twoB, .ref a_mmade, .ref a_mrest, .ref a_old])), (a_mem, .inl (cI, 8192, .inl v_mF)), (a_mks, .inl (cI, 4, .inl v_mkF)), (a_mr, .inl (cI, 16, .inl v_mrF)), (a_one, .inl (cI, 80, .inl v_oneF)), (a_two, .inl (cI, 80, .inl v_twoF))]
abbrev rmX12_fromDecimal : Room := { frames := 2, cells := 0, slots := 0, locals := 48 }
abbrev qX12_fromDecimal (D : va_G) (cI cB : ClassId) (a_mo a_mem a_mks a_mr a_cnt a_wd a_one a_two a_mmade a_mrest a_old : Nat) (v_thrown : Int32) (v_mask : Int32) (v_key : Int32) (v_wait : Int32) (v_problem : Int32) (v_code : Int32) (v_length : Int32) (v_cond : Int32) (v_masks : Int32) (v_addr : Int32) (v_mwanted : Int32) (v_wrong : Int32) (v_after : Int32) (v_calls : Int32) (v_oneB : Int32) (v_twoB : Int32) (v_mF : (Nat → Int32)) (v_mkF : (Nat → Int32)) (v_mrF : (Nat → Int32)) (v_oneF : (Nat → Int32)) (v_twoF : (Nat → Int32)) (x0 : Int32) (x1 : Int32) : (Nat → Prop) → Array Value → State → Outcome → State → Prop := fun A9 => va_Qv (fun (u9 : (Int32 × Int32 × Int32 × (Nat → Int32) × (Nat → Int32) × (Nat → Int32))) => u9 = fX12_fromDecimal x0 x1 v_key v_wrong v_oneB v_twoB v_mF v_mkF v_mrF v_oneF v_twoF) (fun u9 t9 => atW D (TYS cI cB) A9 (wX12_fromDecimal cI cB a_mo a_mem a_mks a_mr a_cnt a_wd a_one a_two a_mmade a_mrest a_old v_thrown v_mask v_key v_wait v_problem v_code v_length v_cond v_masks v_addr v_mwanted u9.1 v_after v_calls u9.2.1 u9.2.2.1 v_mF v_mkF u9.2.2.2.1 u9.2.2.2.2.1 u9.2.2.2.2.2) t9) A9
set_option maxHeartbeats 4000000 in
set_option maxRecDepth 100000 in
theorem kX12_fromDecimal (l : Launch) (D : va_G) (cI cB : ClassId) (a_mo a_mem a_mks a_mr a_cnt a_wd a_one a_two a_mmade a_mrest a_old : Nat) (sz : Nat) (v_thrown : Int32) (v_mask : Int32) (v_key : Int32) (v_wait : Int32) (v_problem : Int32) (v_code : Int32) (v_length : Int32) (v_cond : Int32) (v_masks : Int32) (v_addr : Int32) (v_mwanted : Int32) (v_wrong : Int32) (v_after : Int32) (v_calls : Int32) (v_oneB : Int32) (v_twoB : Int32) (v_mF : (Nat → Int32)) (v_mkF : (Nat → Int32)) (v_mrF : (Nat → Int32)) (v_oneF : (Nat → Int32)) (v_twoF : (Nat → Int32)) (x0 : Int32) (x1 : Int32) (hk : vp_in x0 16) (ha : in24 x1) (hw : 0 ≤ v_wrong) : MetW l yX12_fromDecimal (WK yX12_fromDecimal cX12_fromDecimal 6 none) rmX12_fromDecimal D (TYS cI cB) (wX12_fromDecimal cI cB a_mo a_mem a_mks a_mr a_cnt a_wd a_one a_two a_mmade a_mrest a_old v_thrown v_mask v_key v_wait v_problem v_code v_length v_cond v_masks v_addr v_mwanted v_wrong v_after v_calls v_oneB v_twoB v_mF v_mkF v_mrF v_oneF v_twoF) sz [.ref a_mo, .int x0, .int x1] (qX12_fromDecimal D cI cB a_mo a_mem a_mks a_mr a_cnt a_wd a_one a_two a_mmade a_mrest a_old v_thrown v_mask v_key v_wait v_problem v_code v_length v_cond v_masks v_addr v_mwanted v_wrong v_after v_calls v_oneB v_twoB v_mF v_mkF v_mrF v_oneF v_twoF x0 x1) 0 0 := by
  refine met_std (by decide) rfl (Nat.le_of_ble_eq_true rfl) ?_
  intro p e s m below meth c A ls H hx hb hr hml hown hts hlocks hA hP hK hD hS hNW hl
  have hl : lv_has ls 6 [(0, .ref a_mo), (1, .int x0), (2, .int x1)] := hl
  have q_0 := hts _ (List.mem_cons_of_mem _ wd_836)
  have q_1 := hts _ (List.mem_cons_of_mem _ wd_929)
  have q_2 := hts _ (List.mem_cons_of_mem _ wd_782)
  have q_3 := hts _ (List.mem_cons_of_mem _ wd_888)
  have q_4 := hts _ (List.mem_cons_of_mem _ wd_869)
  have q_5 := hts _ (List.mem_cons_of_mem _ wd_870)
  have q_6 := hts _ (List.mem_cons_of_mem _ wd_779)
  refine lv_aload_n hx hb dX12_fromDecimal_0 rfl (lv_at hl 0 rfl) ?_
  refine lv_iload_n hx hb dX12_fromDecimal_1 rfl (lv_at hl 2 rfl) ?_
  refine lv_bipush (v := 8) hx hb dX12_fromDecimal_2 (by decide) ?_
  refine lv_iconst (v := 0) hx hb dX12_fromDecimal_4 (by decide) ?_
  have hPc : va_P D vwCl (wX12_look cI cB a_mo a_mem a_mks a_mr a_cnt a_wd a_one a_two a_mmade a_mrest a_old v_thrown v_mask v_key v_wait v_problem v_code v_length v_cond v_masks v_addr v_mwanted v_wrong v_after v_calls v_oneB v_twoB v_mkF) H := hP.sub [0, 2] rfl
  have hDc : va_D A (wX12_look cI cB a_mo a_mem a_mks a_mr a_cnt a_wd a_one a_two a_mmade a_mrest a_old v_thrown v_mask v_key v_wait v_problem v_code v_length v_cond v_masks v_addr v_mwanted v_wrong v_after v_calls v_oneB v_twoB v_mkF) := hD.sub [0, 2] (by decide) rfl
  have hFc := va_free (wc := (wX12_look cI cB a_mo a_mem a_mks a_mr a_cnt a_wd a_one a_two a_mmade a_mrest a_old v_thrown v_mask v_key v_wait v_problem v_code v_length v_cond v_masks v_addr v_mwanted v_wrong v_after v_calls v_oneB v_twoB v_mkF)) hD hS hA [0, 2] rfl
  refine va_callv (va_runV (As := [.int x1, .int 8, .int 0]) (rest := []) ⟨hx, hb, hml, hown, hts⟩ (kX12_look l D cI cB a_mo a_mem a_mks a_mr a_cnt a_wd a_one a_two a_mmade a_mrest a_old H.size v_thrown v_mask v_key v_wait v_problem v_code v_length v_cond v_masks v_addr v_mwanted v_wrong v_after v_calls v_oneB v_twoB v_mkF x1 8 0) (cwV 3 hts (gd_V wd_857 wd_858 wd_859 wd_807 wd_837) rfl rfl rfl hdX12_look ⟨Nat.le_of_ble_eq_true rfl, Nat.le_of_ble_eq_true rfl⟩) (preV_std (ci := 12) (q0 := 0) hPc hK hDc hNW rfl rfl) rfl rfl hl.1 rfl (lv_room (Nat.le_of_ble_eq_true rfl)) dX12_fromDecimal_5 ⟨Nat.zero_le _, Nat.zero_le _⟩) hS (fun q _ h => hFc q h) hFc (fun u_5 t9 H1 locs ht9 hvm9 hw9 hB9 hz9 hk9 hS => ?_)
  have eu_5 : u_5 = fX12_look x1 8 0 v_key v_wrong v_mkF := hw9
  obtain ⟨hP, hD⟩ := back_std (w1 := (wX12_look cI cB a_mo a_mem a_mks a_mr a_cnt a_wd a_one a_two a_mmade a_mrest a_old v_thrown v_mask v_key v_wait v_problem v_code v_length v_cond v_masks v_addr v_mwanted u_5 v_after v_calls v_oneB v_twoB v_mkF)) (w2 := (wX12_fromDecimal cI cB a_mo a_mem a_mks a_mr a_cnt a_wd a_one a_two a_mmade a_mrest a_old v_thrown v_mask v_key v_wait v_problem v_code v_length v_cond v_masks v_addr v_mwanted u_5 v_after v_calls v_oneB v_twoB v_mF v_mkF v_mrF v_oneF v_twoF)) (wr := [(a_mem, .inl (cI, 8192, .inl v_mF)), (a_mr, .inl (cI, 16, .inl v_mrF)), (a_one, .inl (cI, 80, .inl v_oneF)), (a_two, .inl (cI, 80, .inl v_twoF))]) hP hD [0, 2] [1, 3, 4, 5] [4, 0, 5, 1, 2, 3] rfl rfl (by decide) (by decide) hk9 hFc hB9 ht9 (by decide) rfl
  clear hB9 hk9 hz9 hvm9 ht9 hFc hPc hDc
  generalize H1 = H at hP hS ⊢
  refine lv_aload_n hx hb dX12_fromDecimal_8 rfl (lv_at hl 0 rfl) ?_
  refine lv_iload_n hx hb dX12_fromDecimal_9 rfl (lv_at hl 2 rfl) ?_
  refine lv_bipush (v := 8) hx hb dX12_fromDecimal_10 (by decide) ?_
  have hPc : va_P D vwCl (wX12_even cI cB a_mo a_mem a_mks a_mr a_cnt a_wd a_one a_two a_mmade a_mrest a_old v_thrown v_mask v_key v_wait v_problem v_code v_length v_cond v_masks v_addr v_mwanted u_5 v_after v_calls v_oneB v_twoB) H := hP.sub [0] rfl
  have hDc : va_D A (wX12_even cI cB a_mo a_mem a_mks a_mr a_cnt a_wd a_one a_two a_mmade a_mrest a_old v_thrown v_mask v_key v_wait v_problem v_code v_length v_cond v_masks v_addr v_mwanted u_5 v_after v_calls v_oneB v_twoB) := hD.sub [0] (by decide) rfl
  have hFc := va_free (wc := (wX12_even cI cB a_mo a_mem a_mks a_mr a_cnt a_wd a_one a_two a_mmade a_mrest a_old v_thrown v_mask v_key v_wait v_problem v_code v_length v_cond v_masks v_addr v_mwanted u_5 v_after v_calls v_oneB v_twoB)) hD hS hA [0] rfl
  refine va_callv (va_runV (As := [.int x1, .int 8]) (rest := []) ⟨hx, hb, hml, hown, hts⟩ (kX12_even l D cI cB a_mo a_mem a_mks a_mr a_cnt a_wd a_one a_two a_mmade a_mrest a_old H.size v_thrown v_mask v_key v_wait v_problem v_code v_length v_cond v_masks v_addr v_mwanted u_5 v_after v_calls v_oneB v_twoB x1 8 (by first | with_reducible assumption | decide | (unfold vp_in; decide))) (cwV 2 hts (gd_V wd_860 wd_861 wd_862 wd_807 wd_841) rfl rfl rfl hdX12_even ⟨Nat.le_of_ble_eq_true rfl, Nat.le_of_ble_eq_true rfl⟩) (preV_std (ci := 12) (q0 := 0) hPc hK hDc hNW rfl rfl) rfl rfl hl.1 rfl (lv_room (Nat.le_of_ble_eq_true rfl)) dX12_fromDecimal_12 ⟨Nat.zero_le _, Nat.zero_le _⟩) hS (fun q _ h => hFc q h) hFc (fun u_12 t9 H1 locs ht9 hvm9 hw9 hB9 hz9 hk9 hS => ?_)
  have eu_12 : u_12 = fX12_even x1 8 u_5 := hw9
  obtain ⟨hP, hD⟩ := back_std (w1 := (wX12_even cI cB a_mo a_mem a_mks a_mr a_cnt a_wd a_one a_two a_mmade a_mrest a_old v_thrown v_mask v_key v_wait v_problem v_code v_length v_cond v_masks v_addr v_mwanted u_12 v_after v_calls v_oneB v_twoB)) (w2 := (wX12_fromDecimal cI cB a_mo a_mem a_mks a_mr a_cnt a_wd a_one a_two a_mmade a_mrest a_old v_thrown v_mask v_key v_wait v_problem v_code v_length v_cond v_masks v_addr v_mwanted u_12 v_after v_calls v_oneB v_twoB v_mF v_mkF v_mrF v_oneF v_twoF)) (wr := [(a_mem, .inl (cI, 8192, .inl v_mF)), (a_mks, .inl (cI, 4, .inl v_mkF)), (a_mr, .inl (cI, 16, .inl v_mrF)), (a_one, .inl (cI, 80, .inl v_oneF)), (a_two, .inl (cI, 80, .inl v_twoF))]) hP hD [0] [1, 2, 3, 4, 5] [5, 0, 1, 2, 3, 4] rfl rfl (by decide) (by decide) hk9 hFc hB9 ht9 (by decide) rfl
  clear hB9 hk9 hz9 hvm9 ht9 hFc hPc hDc
  generalize H1 = H at hP hS ⊢
  refine lv_aload_n hx hb dX12_fromDecimal_15 rfl (lv_at hl 0 rfl) ?_
  refine lv_iload_n hx hb dX12_fromDecimal_16 rfl (lv_at hl 2 rfl) ?_
  refine lv_bipush (v := 8) hx hb dX12_fromDecimal_17 (by decide) ?_
  refine lv_iconst (v := 1) hx hb dX12_fromDecimal_19 (by decide) ?_
  have hPc : va_P D vwCl (wX12_takeDecimal cI cB a_mo a_mem a_mks a_mr a_cnt a_wd a_one a_two a_mmade a_mrest a_old v_thrown v_mask v_key v_wait v_problem v_code v_length v_cond v_masks v_addr v_mwanted u_12 v_after v_calls v_oneB v_twoB v_mF v_oneF v_twoF) H := hP.sub [0, 1, 4, 5] rfl
  have hDc : va_D A (wX12_takeDecimal cI cB a_mo a_mem a_mks a_mr a_cnt a_wd a_one a_two a_mmade a_mrest a_old v_thrown v_mask v_key v_wait v_problem v_code v_length v_cond v_masks v_addr v_mwanted u_12 v_after v_calls v_oneB v_twoB v_mF v_oneF v_twoF) := hD.sub [0, 1, 4, 5] (by decide) rfl
  have hFc := va_free (wc := (wX12_takeDecimal cI cB a_mo a_mem a_mks a_mr a_cnt a_wd a_one a_two a_mmade a_mrest a_old v_thrown v_mask v_key v_wait v_problem v_code v_length v_cond v_masks v_addr v_mwanted u_12 v_after v_calls v_oneB v_twoB v_mF v_oneF v_twoF)) hD hS hA [0, 1, 4, 5] rfl
  refine va_callv (va_runV (As := [.int x1, .int 8, .int 1]) (rest := []) ⟨hx, hb, hml, hown, hts⟩ (kX12_takeDecimal l D cI cB a_mo a_mem a_mks a_mr a_cnt a_wd a_one a_two a_mmade a_mrest a_old H.size v_thrown v_mask v_key v_wait v_problem v_code v_length v_cond v_masks v_addr v_mwanted u_12 v_after v_calls v_oneB v_twoB v_mF v_oneF v_twoF x1 8 1 ⟨by decide, by decide⟩ (fun h9 => op_in ha (Or.inr (Or.inr (Or.inr rfl))) hw eu_5 eu_12 (nle_pos h9))) (cwV 3 hts (gd_V wd_931 wd_932 wd_933 wd_807 wd_887) rfl rfl rfl hdX12_takeDecimal ⟨Nat.le_of_ble_eq_true rfl, Nat.le_of_ble_eq_true rfl⟩) (preV_std (ci := 12) (q0 := 0) hPc hK hDc hNW rfl rfl) rfl rfl hl.1 rfl (lv_room (Nat.le_of_ble_eq_true rfl)) dX12_fromDecimal_20 ⟨Nat.zero_le _, Nat.zero_le _⟩) hS (fun q _ h => hFc q h) hFc (fun u_20 t9 H1 locs ht9 hvm9 hw9 hB9 hz9 hk9 hS => ?_)
  have eu_20 : u_20 = fX12_takeDecimal x1 8 1 u_12 v_oneB v_twoB v_mF v_oneF v_twoF := hw9
  obtain ⟨hP, hD⟩ := back_std (w1 := (wX12_takeDecimal cI cB a_mo a_mem a_mks a_mr a_cnt a_wd a_one a_two a_mmade a_mrest a_old v_thrown v_mask v_key v_wait v_problem v_code v_length v_cond v_masks v_addr v_mwanted u_20.1 v_after v_calls u_20.2.1 u_20.2.2.1 v_mF u_20.2.2.2.1 u_20.2.2.2.2)) (w2 := (wX12_fromDecimal cI cB a_mo a_mem a_mks a_mr a_cnt a_wd a_one a_two a_mmade a_mrest a_old v_thrown v_mask v_key v_wait v_problem v_code v_length v_cond v_masks v_addr v_mwanted u_20.1 v_after v_calls u_20.2.1 u_20.2.2.1 v_mF v_mkF v_mrF u_20.2.2.2.1 u_20.2.2.2.2)) (wr := [(a_mks, .inl (cI, 4, .inl v_mkF)), (a_mr, .inl (cI, 16, .inl v_mrF))]) hP hD [0, 1, 4, 5] [2, 3] [2, 3, 0, 1, 4, 5] rfl rfl (by decide) (by decide) hk9 hFc hB9 ht9 (by decide) rfl
  clear hB9 hk9 hz9 hvm9 ht9 hFc hPc hDc
  generalize H1 = H at hP hS ⊢
  refine lv_aload_n hx hb dX12_fromDecimal_23 rfl (lv_at hl 0 rfl) ?_
  refine va_get (D := D) (ci := 12) (v := .int u_20.1) (C := RX12) (T := TX12) (N := 26) hx hb hts in_X12 hown hK hP 0 rfl rfl 16 (by decide) q_0 (fun _ h9 => h9) rfl dX12_fromDecimal_24 ?_
  refine lv_if_le (tgt := 31) hx hb dX12_fromDecimal_27 (by decide) (fun c_27 => ?_) (fun c_27 => ?_)
  · skip
    refine lv_lconst (v := 0) hx hb dX12_fromDecimal_31 (by decide) ?_
    refine lv_lstore_n (lv' := [(3, .long 0), (0, .ref a_mo), (1, .int x0), (2, .int x1)]) hx hb dX12_fromDecimal_32 rfl hl (by decide) rfl (fun ls hl => ?_)
    refine lv_bipush (v := 14) hx hb dX12_fromDecimal_33 (by decide) ?_
    refine lv_istore (lv' := [(5, .int 14), (3, .long 0), (0, .ref a_mo), (1, .int x0), (2, .int x1)]) hx hb dX12_fromDecimal_35 hl (by decide) rfl (fun ls hl => ?_)
    obtain ⟨g_37, eg_37⟩ : ∃ z : (Int64 × Int32), z = LX12_fromDecimal_37 u_20 (msD 14 + 1) (0, 14) := ⟨_, rfl⟩
    have K_37_0 : ∀ (H : Heap) (locs : List Loc), va_P D vwCl (wX12_fromDecimal cI cB a_mo a_mem a_mks a_mr a_cnt a_wd a_one a_two a_mmade a_mrest a_old v_thrown v_mask v_key v_wait v_problem v_code v_length v_cond v_masks v_addr v_mwanted u_20.1 v_after v_calls u_20.2.1 u_20.2.2.1 v_mF v_mkF v_mrF u_20.2.2.2.1 u_20.2.2.2.2) H → va_D A (wX12_fromDecimal cI cB a_mo a_mem a_mks a_mr a_cnt a_wd a_one a_two a_mmade a_mrest a_old v_thrown v_mask v_key v_wait v_problem v_code v_length v_cond v_masks v_addr v_mwanted u_20.1 v_after v_calls u_20.2.1 u_20.2.2.1 v_mF v_mkF v_mrF u_20.2.2.2.1 u_20.2.2.2.2) → va_S A s.heap H locs → ∀ (ls : Array Slot), lv_has ls 6 [(0, .ref a_mo), (1, .int x0), (2, .int x1), (3, .long g_37.1), (5, .int g_37.2)] → W p l e rmX12_fromDecimal s m ([.ref a_mo, .int x0, .int x1] : List Value).toArray below meth c H locs 0 0 (MQ below (qX12_fromDecimal D cI cB a_mo a_mem a_mks a_mr a_cnt a_wd a_one a_two a_mmade a_mrest a_old v_thrown v_mask v_key v_wait v_problem v_code v_length v_cond v_masks v_addr v_mwanted v_wrong v_after v_calls v_oneB v_twoB v_mF v_mkF v_mrF v_oneF v_twoF x0 x1 A) ([.ref a_mo, .int x0, .int x1] : List Value).toArray s 0 0 A) (F0 m 63 ls []) := by
      intro H locs hP hD hS ls hl
      refine lv_aload_n hx hb dX12_fromDecimal_63 rfl (lv_at hl 0 rfl) ?_
      refine va_get (D := D) (ci := 12) (v := .int u_20.2.1) (C := RX12) (T := TX12) (N := 26) hx hb hts in_X12 hown hK hP 0 rfl rfl 20 (by decide) q_3 (fun _ h9 => h9) rfl dX12_fromDecimal_64 ?_
      have J_76 : ∀ (m_76 : Int64), m_76 = (if u_20.2.1 = 0 then (g_37.1) else ((-g_37.1))) → ∀ (H : Heap) (locs : List Loc), va_P D vwCl (wX12_fromDecimal cI cB a_mo a_mem a_mks a_mr a_cnt a_wd a_one a_two a_mmade a_mrest a_old v_thrown v_mask v_key v_wait v_problem v_code v_length v_cond v_masks v_addr v_mwanted u_20.1 v_after v_calls u_20.2.1 u_20.2.2.1 v_mF v_mkF v_mrF u_20.2.2.2.1 u_20.2.2.2.2) H → va_D A (wX12_fromDecimal cI cB a_mo a_mem a_mks a_mr a_cnt a_wd a_one a_two a_mmade a_mrest a_old v_thrown v_mask v_key v_wait v_problem v_code v_length v_cond v_masks v_addr v_mwanted u_20.1 v_after v_calls u_20.2.1 u_20.2.2.1 v_mF v_mkF v_mrF u_20.2.2.2.1 u_20.2.2.2.2) → va_S A s.heap H locs → ∀ (ls : Array Slot), lv_has ls 6 [(0, .ref a_mo), (1, .int x0), (2, .int x1), (3, .long g_37.1), (5, .int g_37.2)] → W p l e rmX12_fromDecimal s m ([.ref a_mo, .int x0, .int x1] : List Value).toArray below meth c H locs 0 0 (MQ below (qX12_fromDecimal D cI cB a_mo a_mem a_mks a_mr a_cnt a_wd a_one a_two a_mmade a_mrest a_old v_thrown v_mask v_key v_wait v_problem v_code v_length v_cond v_masks v_addr v_mwanted v_wrong v_after v_calls v_oneB v_twoB v_mF v_mkF v_mrF v_oneF v_twoF x0 x1 A) ([.ref a_mo, .int x0, .int x1] : List Value).toArray s 0 0 A) (F0 m 76 ls [.long m_76]) := by
        intro m_76 em_76 H locs hP hD hS ls hl
        try dsimp only at em_76
        refine lv_lstore_n (lv' := [(3, .long m_76), (0, .ref a_mo), (1, .int x0), (2, .int x1), (5, .int g_37.2)]) hx hb dX12_fromDecimal_76 rfl hl (by decide) rfl (fun ls hl => ?_)
        refine lv_lload_n hx hb dX12_fromDecimal_77 rfl (lv_at hl 0 rfl) ?_
        refine lv_ldc2 (v := 2147483647) hx hb hown q_4 dX12_fromDecimal_78 ?_
        refine W.lcmp hx hb dX12_fromDecimal_81 ?_
        refine lv_if_gt (tgt := 93) hx hb dX12_fromDecimal_82 (by decide) (fun c_82 => ?_) (fun c_82 => ?_)
        · skip
          refine lv_aload_n hx hb dX12_fromDecimal_93 rfl (lv_at hl 1 rfl) ?_
          refine lv_bipush (v := 9) hx hb dX12_fromDecimal_94 (by decide) ?_
          have hPc : va_P D vwCl (wX12_meet cI cB a_mo a_mem a_mks a_mr a_cnt a_wd a_one a_two a_mmade a_mrest a_old v_thrown v_mask v_key v_wait v_problem v_code v_length v_cond v_masks v_addr v_mwanted u_20.1 v_after v_calls u_20.2.1 u_20.2.2.1) H := hP.sub [0] rfl
          have hDc : va_D A (wX12_meet cI cB a_mo a_mem a_mks a_mr a_cnt a_wd a_one a_two a_mmade a_mrest a_old v_thrown v_mask v_key v_wait v_problem v_code v_length v_cond v_masks v_addr v_mwanted u_20.1 v_after v_calls u_20.2.1 u_20.2.2.1) := hD.sub [0] (by decide) rfl
          have hFc := va_free (wc := (wX12_meet cI cB a_mo a_mem a_mks a_mr a_cnt a_wd a_one a_two a_mmade a_mrest a_old v_thrown v_mask v_key v_wait v_problem v_code v_length v_cond v_masks v_addr v_mwanted u_20.1 v_after v_calls u_20.2.1 u_20.2.2.1)) hD hS hA [0] rfl
          refine va_callv (va_runV (As := [.int 9]) (rest := []) ⟨hx, hb, hml, hown, hts⟩ (kX12_meet l D cI cB a_mo a_mem a_mks a_mr a_cnt a_wd a_one a_two a_mmade a_mrest a_old H.size v_thrown v_mask v_key v_wait v_problem v_code v_length v_cond v_masks v_addr v_mwanted u_20.1 v_after v_calls u_20.2.1 u_20.2.2.1 9) (cwV 1 hts (gd_V wd_838 wd_839 wd_840 wd_807 wd_835) rfl rfl rfl hdX12_meet ⟨Nat.le_of_ble_eq_true rfl, Nat.le_of_ble_eq_true rfl⟩) (preV_std (ci := 12) (q0 := 0) hPc hK hDc hNW rfl rfl) rfl rfl hl.1 rfl (lv_room (Nat.le_of_ble_eq_true rfl)) dX12_fromDecimal_96 ⟨Nat.zero_le _, Nat.zero_le _⟩) hS (fun q _ h => hFc q h) hFc (fun u_96 t9 H1 locs ht9 hvm9 hw9 hB9 hz9 hk9 hS => ?_)
          have eu_96 : u_96 = fX12_meet 9 u_20.1 := hw9
          obtain ⟨hP, hD⟩ := back_std (w1 := (wX12_meet cI cB a_mo a_mem a_mks a_mr a_cnt a_wd a_one a_two a_mmade a_mrest a_old v_thrown v_mask v_key v_wait v_problem v_code v_length v_cond v_masks v_addr v_mwanted u_96 v_after v_calls u_20.2.1 u_20.2.2.1)) (w2 := (wX12_fromDecimal cI cB a_mo a_mem a_mks a_mr a_cnt a_wd a_one a_two a_mmade a_mrest a_old v_thrown v_mask v_key v_wait v_problem v_code v_length v_cond v_masks v_addr v_mwanted u_96 v_after v_calls u_20.2.1 u_20.2.2.1 v_mF v_mkF v_mrF u_20.2.2.2.1 u_20.2.2.2.2)) (wr := [(a_mem, .inl (cI, 8192, .inl v_mF)), (a_mks, .inl (cI, 4, .inl v_mkF)), (a_mr, .inl (cI, 16, .inl v_mrF)), (a_one, .inl (cI, 80, .inl u_20.2.2.2.1)), (a_two, .inl (cI, 80, .inl u_20.2.2.2.2))]) hP hD [0] [1, 2, 3, 4, 5] [5, 0, 1, 2, 3, 4] rfl rfl (by decide) (by decide) hk9 hFc hB9 ht9 (by decide) rfl
          clear hB9 hk9 hz9 hvm9 ht9 hFc hPc hDc
          generalize H1 = H at hP hS ⊢
          refine lv_goto (tgt := 110) hx hb dX12_fromDecimal_99 (by decide) ?_
          have hf9 : (u_96, u_20.2.1, u_20.2.2.1, v_mrF, u_20.2.2.2.1, u_20.2.2.2.2) = fX12_fromDecimal x0 x1 v_key v_wrong v_oneB v_twoB v_mF v_mkF v_mrF v_oneF v_twoF := by simp only [fX12_fromDecimal, ← eu_5, ← eu_12, ← eu_20, ← eg_37, ← em_76, ← eu_96]; (try simp only [if_pos c_27, if_pos c_82])
          exact W.vret hx hb hr (fun t9 ht9 hW9 => ⟨⟨(u_96, u_20.2.1, u_20.2.2.1, v_mrF, u_20.2.2.2.1, u_20.2.2.2.2), rfl, hf9, ⟨by rw [ht9]; exact hP, va_K.moved hW9.alike hK, hD⟩⟩, hS.F ht9⟩) hS.2.2 dX12_fromDecimal_110
        · skip
          refine lv_lload_n hx hb dX12_fromDecimal_85 rfl (lv_at hl 0 rfl) ?_
          refine lv_ldc2 (v := (-2147483648)) hx hb hown q_5 dX12_fromDecimal_86 ?_
          refine W.lcmp hx hb dX12_fromDecimal_89 ?_
          refine lv_if_ge (tgt := 102) hx hb dX12_fromDecimal_90 (by decide) (fun c_90 => ?_) (fun c_90 => ?_)
          · skip
            refine lv_aload_n hx hb dX12_fromDecimal_102 rfl (lv_at hl 1 rfl) ?_
            refine va_get (D := D) (ci := 12) (v := .ref a_mr) (C := RX12) (T := TX12) (N := 26) hx hb hts in_X12 hown hK hP 0 rfl rfl 3 (by decide) q_6 (fun _ h9 => h9) rfl dX12_fromDecimal_103 ?_
            refine lv_iload_n hx hb dX12_fromDecimal_106 rfl (lv_at hl 2 rfl) ?_
            refine lv_lload_n hx hb dX12_fromDecimal_107 rfl (lv_at hl 0 rfl) ?_
            refine lv_l2i hx hb dX12_fromDecimal_108 rfl ?_
            refine va_iast hx hb hK hP hD hS 3 0 rfl rfl (by first | with_reducible assumption | exact vin_of (b := 16) (by decide) (by with_reducible assumption) (by with_reducible assumption) | exact vin_of (b := 16) (by decide) (Int32.not_lt.mp (by with_reducible assumption)) (by with_reducible assumption) | exact vin_dn (by decide) (by with_reducible assumption) hI9) dX12_fromDecimal_109 (fun H locs hP hD hS => ?_)
            obtain ⟨f_109, ef_109⟩ : ∃ z : Nat → Int32, z = upd v_mrF (x0 : Int32).toNatClampNeg ((m_76 : Int64).toInt32) := ⟨_, rfl⟩
            have hP : va_P D vwCl (wX12_fromDecimal cI cB a_mo a_mem a_mks a_mr a_cnt a_wd a_one a_two a_mmade a_mrest a_old v_thrown v_mask v_key v_wait v_problem v_code v_length v_cond v_masks v_addr v_mwanted u_20.1 v_after v_calls u_20.2.1 u_20.2.2.1 v_mF v_mkF (upd v_mrF (x0 : Int32).toNatClampNeg ((m_76 : Int64).toInt32)) u_20.2.2.2.1 u_20.2.2.2.2) H := hP
            have hD : va_D A (wX12_fromDecimal cI cB a_mo a_mem a_mks a_mr a_cnt a_wd a_one a_two a_mmade a_mrest a_old v_thrown v_mask v_key v_wait v_problem v_code v_length v_cond v_masks v_addr v_mwanted u_20.1 v_after v_calls u_20.2.1 u_20.2.2.1 v_mF v_mkF (upd v_mrF (x0 : Int32).toNatClampNeg ((m_76 : Int64).toInt32)) u_20.2.2.2.1 u_20.2.2.2.2) := hD
            rw [← ef_109] at hP hD
            have hf9 : (u_20.1, u_20.2.1, u_20.2.2.1, f_109, u_20.2.2.2.1, u_20.2.2.2.2) = fX12_fromDecimal x0 x1 v_key v_wrong v_oneB v_twoB v_mF v_mkF v_mrF v_oneF v_twoF := by subst ef_109; simp only [fX12_fromDecimal, ← eu_5, ← eu_12, ← eu_20, ← eg_37, ← em_76]; (try simp only [if_pos c_27, if_neg c_82, if_pos c_90])
            exact W.vret hx hb hr (fun t9 ht9 hW9 => ⟨⟨(u_20.1, u_20.2.1, u_20.2.2.1, f_109, u_20.2.2.2.1, u_20.2.2.2.2), rfl, hf9, ⟨by rw [ht9]; exact hP, va_K.moved hW9.alike hK, hD⟩⟩, hS.F ht9⟩) hS.2.2 dX12_fromDecimal_110
          · skip
            refine lv_aload_n hx hb dX12_fromDecimal_93 rfl (lv_at hl 1 rfl) ?_
            refine lv_bipush (v := 9) hx hb dX12_fromDecimal_94 (by decide) ?_
            have hPc : va_P D vwCl (wX12_meet cI cB a_mo a_mem a_mks a_mr a_cnt a_wd a_one a_two a_mmade a_mrest a_old v_thrown v_mask v_key v_wait v_problem v_code v_length v_cond v_masks v_addr v_mwanted u_20.1 v_after v_calls u_20.2.1 u_20.2.2.1) H := hP.sub [0] rfl
            have hDc : va_D A (wX12_meet cI cB a_mo a_mem a_mks a_mr a_cnt a_wd a_one a_two a_mmade a_mrest a_old v_thrown v_mask v_key v_wait v_problem v_code v_length v_cond v_masks v_addr v_mwanted u_20.1 v_after v_calls u_20.2.1 u_20.2.2.1) := hD.sub [0] (by decide) rfl
            have hFc := va_free (wc := (wX12_meet cI cB a_mo a_mem a_mks a_mr a_cnt a_wd a_one a_two a_mmade a_mrest a_old v_thrown v_mask v_key v_wait v_problem v_code v_length v_cond v_masks v_addr v_mwanted u_20.1 v_after v_calls u_20.2.1 u_20.2.2.1)) hD hS hA [0] rfl
            refine va_callv (va_runV (As := [.int 9]) (rest := []) ⟨hx, hb, hml, hown, hts⟩ (kX12_meet l D cI cB a_mo a_mem a_mks a_mr a_cnt a_wd a_one a_two a_mmade a_mrest a_old H.size v_thrown v_mask v_key v_wait v_problem v_code v_length v_cond v_masks v_addr v_mwanted u_20.1 v_after v_calls u_20.2.1 u_20.2.2.1 9) (cwV 1 hts (gd_V wd_838 wd_839 wd_840 wd_807 wd_835) rfl rfl rfl hdX12_meet ⟨Nat.le_of_ble_eq_true rfl, Nat.le_of_ble_eq_true rfl⟩) (preV_std (ci := 12) (q0 := 0) hPc hK hDc hNW rfl rfl) rfl rfl hl.1 rfl (lv_room (Nat.le_of_ble_eq_true rfl)) dX12_fromDecimal_96 ⟨Nat.zero_le _, Nat.zero_le _⟩) hS (fun q _ h => hFc q h) hFc (fun u_96 t9 H1 locs ht9 hvm9 hw9 hB9 hz9 hk9 hS => ?_)
            have eu_96 : u_96 = fX12_meet 9 u_20.1 := hw9
            obtain ⟨hP, hD⟩ := back_std (w1 := (wX12_meet cI cB a_mo a_mem a_mks a_mr a_cnt a_wd a_one a_two a_mmade a_mrest a_old v_thrown v_mask v_key v_wait v_problem v_code v_length v_cond v_masks v_addr v_mwanted u_96 v_after v_calls u_20.2.1 u_20.2.2.1)) (w2 := (wX12_fromDecimal cI cB a_mo a_mem a_mks a_mr a_cnt a_wd a_one a_two a_mmade a_mrest a_old v_thrown v_mask v_key v_wait v_problem v_code v_length v_cond v_masks v_addr v_mwanted u_96 v_after v_calls u_20.2.1 u_20.2.2.1 v_mF v_mkF v_mrF u_20.2.2.2.1 u_20.2.2.2.2)) (wr := [(a_mem, .inl (cI, 8192, .inl v_mF)), (a_mks, .inl (cI, 4, .inl v_mkF)), (a_mr, .inl (cI, 16, .inl v_mrF)), (a_one, .inl (cI, 80, .inl u_20.2.2.2.1)), (a_two, .inl (cI, 80, .inl u_20.2.2.2.2))]) hP hD [0] [1, 2, 3, 4, 5] [5, 0, 1, 2, 3, 4] rfl rfl (by decide) (by decide) hk9 hFc hB9 ht9 (by decide) rfl
            clear hB9 hk9 hz9 hvm9 ht9 hFc hPc hDc
            generalize H1 = H at hP hS ⊢
            refine lv_goto (tgt := 110) hx hb dX12_fromDecimal_99 (by decide) ?_
            have hf9 : (u_96, u_20.2.1, u_20.2.2.1, v_mrF, u_20.2.2.2.1, u_20.2.2.2.2) = fX12_fromDecimal x0 x1 v_key v_wrong v_oneB v_twoB v_mF v_mkF v_mrF v_oneF v_twoF := by simp only [fX12_fromDecimal, ← eu_5, ← eu_12, ← eu_20, ← eg_37, ← em_76, ← eu_96]; (try simp only [if_pos c_27, if_neg c_82, if_neg c_90])
            exact W.vret hx hb hr (fun t9 ht9 hW9 => ⟨⟨(u_96, u_20.2.1, u_20.2.2.1, v_mrF, u_20.2.2.2.1, u_20.2.2.2.2), rfl, hf9, ⟨by rw [ht9]; exact hP, va_K.moved hW9.alike hK, hD⟩⟩, hS.F ht9⟩) hS.2.2 dX12_fromDecimal_110
      refine lv_if_eq (tgt := 75) hx hb dX12_fromDecimal_67 (by decide) (fun c_67 => ?_) (fun c_67 => ?_)
      · skip
        refine lv_lload_n hx hb dX12_fromDecimal_75 rfl (lv_at hl 3 rfl) ?_
        exact J_76 g_37.1 (by (try simp only [if_pos c_67])) _ _ hP hD hS ls (lv_sub hl [0, 1, 2, 3, 4] rfl)
      · skip
        refine lv_lload_n hx hb dX12_fromDecimal_70 rfl (lv_at hl 3 rfl) ?_
        refine lv_lneg hx hb dX12_fromDecimal_71 ?_
        refine lv_goto (tgt := 76) hx hb dX12_fromDecimal_72 (by decide) ?_
        exact J_76 (-g_37.1) (by (try simp only [if_neg c_67])) _ _ hP hD hS ls (lv_sub hl [0, 1, 2, 3, 4] rfl)
    have lp_37 : ∀ (n9 : Nat) (w_37 : (Int64 × Int32)), msD w_37.2 < n9 → w_37.2 ≤ 14 → LX12_fromDecimal_37 u_20 n9 w_37 = g_37 → ∀ (H : Heap) (locs : List Loc), va_P D vwCl (wX12_fromDecimal cI cB a_mo a_mem a_mks a_mr a_cnt a_wd a_one a_two a_mmade a_mrest a_old v_thrown v_mask v_key v_wait v_problem v_code v_length v_cond v_masks v_addr v_mwanted u_20.1 v_after v_calls u_20.2.1 u_20.2.2.1 v_mF v_mkF v_mrF u_20.2.2.2.1 u_20.2.2.2.2) H → va_D A (wX12_fromDecimal cI cB a_mo a_mem a_mks a_mr a_cnt a_wd a_one a_two a_mmade a_mrest a_old v_thrown v_mask v_key v_wait v_problem v_code v_length v_cond v_masks v_addr v_mwanted u_20.1 v_after v_calls u_20.2.1 u_20.2.2.1 v_mF v_mkF v_mrF u_20.2.2.2.1 u_20.2.2.2.2) → va_S A s.heap H locs → ∀ (ls : Array Slot), lv_has ls 6 [(0, .ref a_mo), (1, .int x0), (2, .int x1), (3, .long w_37.1), (5, .int w_37.2)] → W p l e rmX12_fromDecimal s m ([.ref a_mo, .int x0, .int x1] : List Value).toArray below meth c H locs 0 0 (MQ below (qX12_fromDecimal D cI cB a_mo a_mem a_mks a_mr a_cnt a_wd a_one a_two a_mmade a_mrest a_old v_thrown v_mask v_key v_wait v_problem v_code v_length v_cond v_masks v_addr v_mwanted v_wrong v_after v_calls v_oneB v_twoB v_mF v_mkF v_mrF v_oneF v_twoF x0 x1 A) ([.ref a_mo, .int x0, .int x1] : List Value).toArray s 0 0 A) (F0 m 37 ls []) := by
      intro n9
      induction n9 with
      | zero => intro w_37 hm9; exact absurd hm9 (Nat.not_lt_zero _)
      | succ n9 ih =>
        intro w_37 hm9 hI9 hL9 H locs hP hD hS ls hl
        have hI_37 := hI9
        refine lv_iload hx hb dX12_fromDecimal_37 (lv_at hl 4 rfl) ?_
        refine lv_if_lt (tgt := 63) hx hb dX12_fromDecimal_39 (by decide) (fun c_39 => ?_) (fun c_39 => ?_)
        · skip
          have hg9 : (w_37.1, w_37.2) = g_37 := by rw [← hL9]; simp only [LX12_fromDecimal_37]; (try simp only [if_pos c_39])
          subst hg9
          exact K_37_0 _ _ hP hD hS ls (lv_sub hl [0, 1, 2, 3, 4] rfl)
        · skip
          refine lv_lload_n hx hb dX12_fromDecimal_42 rfl (lv_at hl 3 rfl) ?_
          refine lv_ldc2 (v := 10) hx hb hown q_1 dX12_fromDecimal_43 ?_
          refine lv_lmul hx hb dX12_fromDecimal_46 ?_
          refine lv_aload_n hx hb dX12_fromDecimal_47 rfl (lv_at hl 0 rfl) ?_
          refine va_get (D := D) (ci := 12) (v := .ref a_one) (C := RX12) (T := TX12) (N := 26) hx hb hts in_X12 hown hK hP 0 rfl rfl 19 (by decide) q_2 (fun _ h9 => h9) rfl dX12_fromDecimal_48 ?_
          refine lv_iload hx hb dX12_fromDecimal_51 (lv_at hl 4 rfl) ?_
          refine va_iald hx hb hK hP 4 0 rfl rfl (by first | with_reducible assumption | exact vin_of (b := 80) (by decide) (by with_reducible assumption) (by with_reducible assumption) | exact vin_of (b := 80) (by decide) (Int32.not_lt.mp (by with_reducible assumption)) (by with_reducible assumption) | exact vin_dn (by decide) (by with_reducible assumption) hI9) dX12_fromDecimal_53 ?_
          refine lv_i2l hx hb dX12_fromDecimal_54 rfl ?_
          refine lv_ladd hx hb dX12_fromDecimal_55 ?_
          refine lv_topl (fun x_56 ex_56 => ?_)
          refine lv_lstore_n (lv' := [(3, .long x_56), (0, .ref a_mo), (1, .int x0), (2, .int x1), (5, .int w_37.2)]) hx hb dX12_fromDecimal_56 rfl hl (by decide) rfl (fun ls hl => ?_)
          obtain ⟨x_57, ex_57⟩ : ∃ z : Int32, z = w_37.2 + (-1) := ⟨_, rfl⟩
          refine lv_iinc (v := x_57) (lv' := [(5, .int x_57), (3, .long x_56), (0, .ref a_mo), (1, .int x0), (2, .int x1)]) hx hb dX12_fromDecimal_57 hl (k := 4) rfl (by rw [ex_57]; rfl) (by decide) rfl (fun ls hl => ?_)
          refine lv_goto (tgt := 37) hx hb dX12_fromDecimal_60 (by decide) ?_
          exact ih (x_56, x_57) (by subst ex_57; subst ex_56;  exact Nat.lt_of_lt_of_le (ms_dn c_39) (Nat.le_of_lt_succ hm9)) (by subst ex_57; subst ex_56;  exact le_dn hI9 c_39) (by rw [← hL9]; subst ex_57; subst ex_56; simp only [LX12_fromDecimal_37]; (try simp only [if_neg c_39])) _ _ hP hD hS ls (lv_sub hl [2, 3, 4, 1, 0] rfl)
    exact lp_37 (msD 14 + 1) (0, 14) (Nat.lt_succ_self _) (by show (14 : Int32) ≤ 14; decide) eg_37.symm _ _ hP hD hS ls (lv_sub hl [2, 3, 4, 1, 0] rfl)
  · skip
    have hf9 : (u_20.1, u_20.2.1, u_20.2.2.1, v_mrF, u_20.2.2.2.1, u_20.2.2.2.2) = fX12_fromDecimal x0 x1 v_key v_wrong v_oneB v_twoB v_mF v_mkF v_mrF v_oneF v_twoF := by simp only [fX12_fromDecimal, ← eu_5, ← eu_12, ← eu_20]; (try simp only [if_neg c_27])
    exact W.vret hx hb hr (fun t9 ht9 hW9 => ⟨⟨(u_20.1, u_20.2.1, u_20.2.2.1, v_mrF, u_20.2.2.2.1, u_20.2.2.2.2), rfl, hf9, ⟨by rw [ht9]; exact hP, va_K.moved hW9.alike hK, hD⟩⟩, hS.F ht9⟩) hS.2.2 dX12_fromDecimal_30
theorem hdX12_fromDecimal : yX12_fromDecimal.cls = RX12 ∧ yX12_fromDecimal.cls ≠ "java/lang/invoke/MethodHandle" ∧ yX12_fromDecimal.cls ≠ "java/lang/invoke/VarHandle" ∧ (parseMethodDescriptor yX12_fromDecimal.desc).map (fun d => d.parameters.length) = some 2 := by decide +kernel
