def fJ9_floorDiv_7cf53 (x0 : Int32) (x1 : Int32) : Int32 :=
  let x_3 := (x0 / x1)
  if 0 ≤ (x0 ^^^ x1) then (x_3) else (if (x_3 * x1) = x0 then (x_3) else ((x_3 - 1)))
abbrev wJ9_floorDiv_7cf53 (cI cB : ClassId) : va_W := []
abbrev rmJ9_floorDiv_7cf53 : Room := { frames := 0, cells := 0, slots := 0, locals := 0 }
abbrev qJ9_floorDiv_7cf53 (D : va_G) (cI cB : ClassId) (x0 : Int32) (x1 : Int32) : (Nat → Prop) → Array Value → State → Outcome → State → Prop := fun A9 => va_Qi (fun (r9 : Int32) (u9 : Unit) => r9 = fJ9_floorDiv_7cf53 x0 x1) (fun u9 t9 => atW D (TYS cI cB) A9 (wJ9_floorDiv_7cf53 cI cB  ) t9) A9
set_option maxHeartbeats 4000000 in
set_option maxRecDepth 100000 in
theorem kJ9_floorDiv_7cf53 (l : Launch) (D : va_G) (cI cB : ClassId) (sz : Nat) (x0 : Int32) (x1 : Int32) : MetW l yJ9_floorDiv_7cf53 (WK yJ9_floorDiv_7cf53 cJ9_floorDiv_7cf53 3 (some .int)) rmJ9_floorDiv_7cf53 D (TYS cI cB) (wJ9_floorDiv_7cf53 cI cB  ) sz [.int x0, .int x1] (qJ9_floorDiv_7cf53 D cI cB  x0 x1) 0 0 := by
  refine met_std (by decide) rfl (Nat.le_of_ble_eq_true rfl) ?_
  intro p e s m below meth c A ls H hx hb hr hml hown hts hlocks hA hP hK hD hS hNW hl
  have hl : lv_has ls 3 [(0, .int x0), (1, .int x1)] := hl
  refine lv_iload_n hx hb dJ9_floorDiv_7cf53_0 rfl (lv_at hl 0 rfl) ?_
  refine lv_iload_n hx hb dJ9_floorDiv_7cf53_1 rfl (lv_at hl 1 rfl) ?_
  refine lv_idiv hx hb dJ9_floorDiv_7cf53_2 (by assumption) ?_
  refine lv_topi (fun x_3 ex_3 => ?_)
  refine lv_istore_n (lv' := [(2, .int x_3), (0, .int x0), (1, .int x1)]) hx hb dJ9_floorDiv_7cf53_3 rfl hl (by decide) rfl (fun ls hl => ?_)
  refine lv_iload_n hx hb dJ9_floorDiv_7cf53_4 rfl (lv_at hl 1 rfl) ?_
  refine lv_iload_n hx hb dJ9_floorDiv_7cf53_5 rfl (lv_at hl 2 rfl) ?_
  refine lv_ixor hx hb dJ9_floorDiv_7cf53_6 ?_
  refine lv_if_ge (tgt := 21) hx hb dJ9_floorDiv_7cf53_7 (by decide) (fun c_7 => ?_) (fun c_7 => ?_)
  · skip
    refine lv_iload_n hx hb dJ9_floorDiv_7cf53_21 rfl (lv_at hl 0 rfl) ?_
    have hf9 : x_3 = fJ9_floorDiv_7cf53 x0 x1 := by subst ex_3; simp only [fJ9_floorDiv_7cf53, if_pos c_7]
    exact W.iret hx hb hr (fun t9 ht9 hW9 => ⟨⟨x_3, (), rfl, hf9, ⟨by rw [ht9]; exact hP, va_K.moved hW9.alike hK, hD⟩⟩, hS.F ht9⟩) hS.2.2 dJ9_floorDiv_7cf53_22
  · skip
    refine lv_iload_n hx hb dJ9_floorDiv_7cf53_10 rfl (lv_at hl 0 rfl) ?_
    refine lv_iload_n hx hb dJ9_floorDiv_7cf53_11 rfl (lv_at hl 2 rfl) ?_
    refine lv_imul hx hb dJ9_floorDiv_7cf53_12 ?_
    refine lv_iload_n hx hb dJ9_floorDiv_7cf53_13 rfl (lv_at hl 1 rfl) ?_
    refine lv_icmp_eq (tgt := 21) hx hb dJ9_floorDiv_7cf53_14 (by decide) (fun c_14 => ?_) (fun c_14 => ?_)
    · skip
      refine lv_iload_n hx hb dJ9_floorDiv_7cf53_21 rfl (lv_at hl 0 rfl) ?_
      have hf9 : x_3 = fJ9_floorDiv_7cf53 x0 x1 := by subst ex_3; simp only [fJ9_floorDiv_7cf53, if_neg c_7, if_pos c_14]
      exact W.iret hx hb hr (fun t9 ht9 hW9 => ⟨⟨x_3, (), rfl, hf9, ⟨by rw [ht9]; exact hP, va_K.moved hW9.alike hK, hD⟩⟩, hS.F ht9⟩) hS.2.2 dJ9_floorDiv_7cf53_22
    · skip
      refine lv_iload_n hx hb dJ9_floorDiv_7cf53_17 rfl (lv_at hl 0 rfl) ?_
      refine lv_iconst (v := 1) hx hb dJ9_floorDiv_7cf53_18 (by decide) ?_
      refine lv_isub hx hb dJ9_floorDiv_7cf53_19 ?_
      have hf9 : (x_3 - 1) = fJ9_floorDiv_7cf53 x0 x1 := by subst ex_3; simp only [fJ9_floorDiv_7cf53, if_neg c_7, if_neg c_14]
      exact W.iret hx hb hr (fun t9 ht9 hW9 => ⟨⟨(x_3 - 1), (), rfl, hf9, ⟨by rw [ht9]; exact hP, va_K.moved hW9.alike hK, hD⟩⟩, hS.F ht9⟩) hS.2.2 dJ9_floorDiv_7cf53_20
theorem hdJ9_floorDiv_7cf53 : yJ9_floorDiv_7cf53.cls = RJ9 ∧ yJ9_floorDiv_7cf53.cls ≠ "java/lang/invoke/MethodHandle" ∧ yJ9_floorDiv_7cf53.cls ≠ "java/lang/invoke/VarHandle" ∧ (parseMethodDescriptor yJ9_floorDiv_7cf53.desc).map (fun d => d.parameters.length) = some 2 := by decide +kernel
def fJ9_floorMod_7cf53 (x0 : Int32) (x1 : Int32) : Int32 :=
  let x_3 := (x0 - x0 / x1 * x1)
  if 0 ≤ (x0 ^^^ x1) then (x_3) else (if x_3 = 0 then (x_3) else ((x_3 + x1)))
abbrev wJ9_floorMod_7cf53 (cI cB : ClassId) : va_W := []
abbrev rmJ9_floorMod_7cf53 : Room := { frames := 0, cells := 0, slots := 0, locals := 0 }
abbrev qJ9_floorMod_7cf53 (D : va_G) (cI cB : ClassId) (x0 : Int32) (x1 : Int32) : (Nat → Prop) → Array Value → State → Outcome → State → Prop := fun A9 => va_Qi (fun (r9 : Int32) (u9 : Unit) => r9 = fJ9_floorMod_7cf53 x0 x1) (fun u9 t9 => atW D (TYS cI cB) A9 (wJ9_floorMod_7cf53 cI cB  ) t9) A9
set_option maxHeartbeats 4000000 in
set_option maxRecDepth 100000 in
theorem kJ9_floorMod_7cf53 (l : Launch) (D : va_G) (cI cB : ClassId) (sz : Nat) (x0 : Int32) (x1 : Int32) : MetW l yJ9_floorMod_7cf53 (WK yJ9_floorMod_7cf53 cJ9_floorMod_7cf53 3 (some .int)) rmJ9_floorMod_7cf53 D (TYS cI cB) (wJ9_floorMod_7cf53 cI cB  ) sz [.int x0, .int x1] (qJ9_floorMod_7cf53 D cI cB  x0 x1) 0 0 := by
  refine met_std (by decide) rfl (Nat.le_of_ble_eq_true rfl) ?_
  intro p e s m below meth c A ls H hx hb hr hml hown hts hlocks hA hP hK hD hS hNW hl
  have hl : lv_has ls 3 [(0, .int x0), (1, .int x1)] := hl
  refine lv_iload_n hx hb dJ9_floorMod_7cf53_0 rfl (lv_at hl 0 rfl) ?_
  refine lv_iload_n hx hb dJ9_floorMod_7cf53_1 rfl (lv_at hl 1 rfl) ?_
  refine lv_irem hx hb dJ9_floorMod_7cf53_2 (by assumption) ?_
  refine lv_topi (fun x_3 ex_3 => ?_)
  refine lv_istore_n (lv' := [(2, .int x_3), (0, .int x0), (1, .int x1)]) hx hb dJ9_floorMod_7cf53_3 rfl hl (by decide) rfl (fun ls hl => ?_)
  refine lv_iload_n hx hb dJ9_floorMod_7cf53_4 rfl (lv_at hl 1 rfl) ?_
  refine lv_iload_n hx hb dJ9_floorMod_7cf53_5 rfl (lv_at hl 2 rfl) ?_
  refine lv_ixor hx hb dJ9_floorMod_7cf53_6 ?_
  refine lv_if_ge (tgt := 18) hx hb dJ9_floorMod_7cf53_7 (by decide) (fun c_7 => ?_) (fun c_7 => ?_)
  · skip
    refine lv_iload_n hx hb dJ9_floorMod_7cf53_18 rfl (lv_at hl 0 rfl) ?_
    have hf9 : x_3 = fJ9_floorMod_7cf53 x0 x1 := by subst ex_3; simp only [fJ9_floorMod_7cf53, if_pos c_7]
    exact W.iret hx hb hr (fun t9 ht9 hW9 => ⟨⟨x_3, (), rfl, hf9, ⟨by rw [ht9]; exact hP, va_K.moved hW9.alike hK, hD⟩⟩, hS.F ht9⟩) hS.2.2 dJ9_floorMod_7cf53_19
  · skip
    refine lv_iload_n hx hb dJ9_floorMod_7cf53_10 rfl (lv_at hl 0 rfl) ?_
    refine lv_if_eq (tgt := 18) hx hb dJ9_floorMod_7cf53_11 (by decide) (fun c_11 => ?_) (fun c_11 => ?_)
    · skip
      refine lv_iload_n hx hb dJ9_floorMod_7cf53_18 rfl (lv_at hl 0 rfl) ?_
      have hf9 : x_3 = fJ9_floorMod_7cf53 x0 x1 := by subst ex_3; simp only [fJ9_floorMod_7cf53, if_neg c_7, if_pos c_11]
      exact W.iret hx hb hr (fun t9 ht9 hW9 => ⟨⟨x_3, (), rfl, hf9, ⟨by rw [ht9]; exact hP, va_K.moved hW9.alike hK, hD⟩⟩, hS.F ht9⟩) hS.2.2 dJ9_floorMod_7cf53_19
    · skip
      refine lv_iload_n hx hb dJ9_floorMod_7cf53_14 rfl (lv_at hl 0 rfl) ?_
      refine lv_iload_n hx hb dJ9_floorMod_7cf53_15 rfl (lv_at hl 2 rfl) ?_
      refine lv_iadd hx hb dJ9_floorMod_7cf53_16 ?_
      have hf9 : (x_3 + x1) = fJ9_floorMod_7cf53 x0 x1 := by subst ex_3; simp only [fJ9_floorMod_7cf53, if_neg c_7, if_neg c_11]
      exact W.iret hx hb hr (fun t9 ht9 hW9 => ⟨⟨(x_3 + x1), (), rfl, hf9, ⟨by rw [ht9]; exact hP, va_K.moved hW9.alike hK, hD⟩⟩, hS.F ht9⟩) hS.2.2 dJ9_floorMod_7cf53_17
theorem hdJ9_floorMod_7cf53 : yJ9_floorMod_7cf53.cls = RJ9 ∧ yJ9_floorMod_7cf53.cls ≠ "java/lang/invoke/MethodHandle" ∧ yJ9_floorMod_7cf53.cls ≠ "java/lang/invoke/VarHandle" ∧ (parseMethodDescriptor yJ9_floorMod_7cf53.desc).map (fun d => d.parameters.length) = some 2 := by decide +kernel
def LJ7_fill_53178_5 (x1 : Int32) : Nat → ((Nat → Int32) × Int32) → ((Nat → Int32) × Int32)
  | 0, w_5 => w_5
  | n9 + 1, w_5 =>
    if 32 ≤ w_5.2 then ((w_5.1, w_5.2)) else (let f_13 := upd w_5.1 (w_5.2 : Int32).toNatClampNeg (x1); let x_14 := w_5.2 + 1; LJ7_fill_53178_5 x1 n9 (f_13, x_14))
def fJ7_fill_53178 (x1 : Int32) (v_dF : (Nat → Int32)) : (Nat → Int32) :=
  let g_5 := LJ7_fill_53178_5 x1 (((32 : Int32).toInt - (0 : Int32).toInt).toNat + 1) (v_dF, 0)
  g_5.1
abbrev wJ7_fill_53178 (cI cB : ClassId) (a_dg : Nat) (v_dF : (Nat → Int32)) : va_W := [(a_dg, .inl (cI, 32, .inl v_dF))]
abbrev rmJ7_fill_53178 : Room := { frames := 0, cells := 0, slots := 0, locals := 0 }
abbrev qJ7_fill_53178 (D : va_G) (cI cB : ClassId) (a_dg : Nat) (v_dF : (Nat → Int32)) (x1 : Int32) : (Nat → Prop) → Array Value → State → Outcome → State → Prop := fun A9 => va_Qv (fun (u9 : (Nat → Int32)) => u9 = fJ7_fill_53178 x1 v_dF) (fun u9 t9 => atW D (TYS cI cB) A9 (wJ7_fill_53178 cI cB a_dg u9) t9) A9
set_option maxHeartbeats 4000000 in
set_option maxRecDepth 100000 in
theorem kJ7_fill_53178 (l : Launch) (D : va_G) (cI cB : ClassId) (a_dg : Nat) (sz : Nat) (v_dF : (Nat → Int32)) (x1 : Int32) : MetW l yJ7_fill_53178 (WK yJ7_fill_53178 cJ7_fill_53178 4 none) rmJ7_fill_53178 D (TYS cI cB) (wJ7_fill_53178 cI cB a_dg v_dF) sz [.ref a_dg, .int x1] (qJ7_fill_53178 D cI cB a_dg v_dF x1) 0 0 := by
  refine met_std (by decide) rfl (Nat.le_of_ble_eq_true rfl) ?_
  intro p e s m below meth c A ls H hx hb hr hml hown hts hlocks hA hP hK hD hS hNW hl
  have hl : lv_has ls 4 [(0, .ref a_dg), (1, .int x1)] := hl
  refine lv_iconst (v := 0) hx hb dJ7_fill_53178_0 (by decide) ?_
  refine lv_istore_n (lv' := [(2, .int 0), (0, .ref a_dg), (1, .int x1)]) hx hb dJ7_fill_53178_1 rfl hl (by decide) rfl (fun ls hl => ?_)
  refine lv_aload_n hx hb dJ7_fill_53178_2 rfl (lv_at hl 1 rfl) ?_
  refine va_alen (v := 32) hx hb hK hP 0 0 rfl rfl (by decide) dJ7_fill_53178_3 ?_
  refine lv_istore_n (lv' := [(3, .int 32), (2, .int 0), (0, .ref a_dg), (1, .int x1)]) hx hb dJ7_fill_53178_4 rfl hl (by decide) rfl (fun ls hl => ?_)
  obtain ⟨g_5, eg_5⟩ : ∃ z : ((Nat → Int32) × Int32), z = LJ7_fill_53178_5 x1 (((32 : Int32).toInt - (0 : Int32).toInt).toNat + 1) (v_dF, 0) := ⟨_, rfl⟩
  have K_5_0 : ∀ (H : Heap) (locs : List Loc), va_P D vwCl (wJ7_fill_53178 cI cB a_dg g_5.1) H → va_D A (wJ7_fill_53178 cI cB a_dg g_5.1) → va_S A s.heap H locs → ∀ (ls : Array Slot), lv_has ls 4 [(0, .ref a_dg), (1, .int x1), (2, .int g_5.2), (3, .int 32)] → W p l e rmJ7_fill_53178 s m ([.ref a_dg, .int x1] : List Value).toArray below meth c H locs 0 0 (MQ below (qJ7_fill_53178 D cI cB a_dg v_dF x1 A) ([.ref a_dg, .int x1] : List Value).toArray s 0 0 A) (F0 m 20 ls []) := by
    intro H locs hP hD hS ls hl
    have hf9 : g_5.1 = fJ7_fill_53178 x1 v_dF := by subst eg_5; simp only [fJ7_fill_53178]
    exact W.vret hx hb hr (fun t9 ht9 hW9 => ⟨⟨g_5.1, rfl, hf9, ⟨by rw [ht9]; exact hP, va_K.moved hW9.alike hK, hD⟩⟩, hS.F ht9⟩) hS.2.2 dJ7_fill_53178_20
  have lp_5 : ∀ (n9 : Nat) (w_5 : ((Nat → Int32) × Int32)), ((32 : Int32).toInt - (w_5.2 : Int32).toInt).toNat < n9 → 0 ≤ w_5.2 → LJ7_fill_53178_5 x1 n9 w_5 = g_5 → ∀ (H : Heap) (locs : List Loc), va_P D vwCl (wJ7_fill_53178 cI cB a_dg w_5.1) H → va_D A (wJ7_fill_53178 cI cB a_dg w_5.1) → va_S A s.heap H locs → ∀ (ls : Array Slot), lv_has ls 4 [(0, .ref a_dg), (1, .int x1), (2, .int w_5.2), (3, .int 32)] → W p l e rmJ7_fill_53178 s m ([.ref a_dg, .int x1] : List Value).toArray below meth c H locs 0 0 (MQ below (qJ7_fill_53178 D cI cB a_dg v_dF x1 A) ([.ref a_dg, .int x1] : List Value).toArray s 0 0 A) (F0 m 5 ls []) := by
    intro n9
    induction n9 with
    | zero => intro w_5 hm9; exact absurd hm9 (Nat.not_lt_zero _)
    | succ n9 ih =>
      intro w_5 hm9 hI9 hL9 H locs hP hD hS ls hl
      refine lv_iload_n hx hb dJ7_fill_53178_5 rfl (lv_at hl 2 rfl) ?_
      refine lv_iload_n hx hb dJ7_fill_53178_6 rfl (lv_at hl 3 rfl) ?_
      refine lv_icmp_ge (tgt := 20) hx hb dJ7_fill_53178_7 (by decide) (fun c_7 => ?_) (fun c_7 => ?_)
      · skip
        have hg9 : (w_5.1, w_5.2) = g_5 := by rw [← hL9]; simp only [LJ7_fill_53178_5, if_pos c_7]
        subst hg9
        exact K_5_0 _ _ hP hD hS ls (lv_sub hl [0, 1, 2, 3] rfl)
      · skip
        refine lv_aload_n hx hb dJ7_fill_53178_10 rfl (lv_at hl 0 rfl) ?_
        refine lv_iload_n hx hb dJ7_fill_53178_11 rfl (lv_at hl 2 rfl) ?_
        refine lv_iload_n hx hb dJ7_fill_53178_12 rfl (lv_at hl 1 rfl) ?_
        refine va_iast hx hb hK hP hD hS 0 0 rfl rfl (by first | assumption | exact vin_of (b := 32) (by decide) hI9 (by assumption) | exact vin_of (b := 32) (by decide) (by assumption) (by assumption) | exact vin_of (b := 32) (by decide) (Int32.not_lt.mp (by assumption)) (by assumption) | exact vin_dn (by decide) (by assumption) hI9) dJ7_fill_53178_13 (fun H locs hP hD hS => ?_)
        obtain ⟨f_13, ef_13⟩ : ∃ z : Nat → Int32, z = upd w_5.1 (w_5.2 : Int32).toNatClampNeg (x1) := ⟨_, rfl⟩
        have hP : va_P D vwCl (wJ7_fill_53178 cI cB a_dg (upd w_5.1 (w_5.2 : Int32).toNatClampNeg (x1))) H := hP
        have hD : va_D A (wJ7_fill_53178 cI cB a_dg (upd w_5.1 (w_5.2 : Int32).toNatClampNeg (x1))) := hD
        rw [← ef_13] at hP hD
        obtain ⟨x_14, ex_14⟩ : ∃ z : Int32, z = w_5.2 + 1 := ⟨_, rfl⟩
        refine lv_iinc (v := x_14) (lv' := [(2, .int x_14), (0, .ref a_dg), (1, .int x1), (3, .int 32)]) hx hb dJ7_fill_53178_14 hl (k := 2) rfl (by rw [ex_14]; rfl) (by decide) rfl (fun ls hl => ?_)
        refine lv_goto (tgt := 5) hx hb dJ7_fill_53178_17 (by decide) ?_
        exact ih (f_13, x_14) (by subst ex_14; subst ef_13;  exact Nat.lt_of_lt_of_le (ms_up c_7) (Nat.le_of_lt_succ hm9)) (by subst ex_14; subst ef_13;  exact nn_up hI9 c_7) (by rw [← hL9]; subst ex_14; subst ef_13; simp only [LJ7_fill_53178_5, if_neg c_7]) _ _ hP hD hS ls (lv_sub hl [1, 2, 0, 3] rfl)
  exact lp_5 (((32 : Int32).toInt - (0 : Int32).toInt).toNat + 1) (v_dF, 0) (Nat.lt_succ_self _) (by decide) eg_5.symm _ _ hP hD hS ls (lv_sub hl [2, 3, 1, 0] rfl)
theorem hdJ7_fill_53178 : yJ7_fill_53178.cls = RJ7 ∧ yJ7_fill_53178.cls ≠ "java/lang/invoke/MethodHandle" ∧ yJ7_fill_53178.cls ≠ "java/lang/invoke/VarHandle" ∧ (parseMethodDescriptor yJ7_fill_53178.desc).map (fun d => d.parameters.length) = some 2 := by decide +kernel
def fX1_isSign (x0 : Int32) : Int32 :=
  if x0 ≤ 9 then (0) else (1)
theorem zX1_isSign (x0 : Int32) : (fX1_isSign x0) = 0 ∨ (fX1_isSign x0) = 1 := by unfold fX1_isSign; (repeat' split) <;> first | exact Or.inl rfl | exact Or.inr rfl
abbrev wX1_isSign (cI cB : ClassId) : va_W := []
abbrev rmX1_isSign : Room := { frames := 0, cells := 0, slots := 0, locals := 0 }
abbrev qX1_isSign (D : va_G) (cI cB : ClassId) (x0 : Int32) : (Nat → Prop) → Array Value → State → Outcome → State → Prop := fun A9 => va_Qi (fun (r9 : Int32) (u9 : Unit) => r9 = fX1_isSign x0) (fun u9 t9 => atW D (TYS cI cB) A9 (wX1_isSign cI cB  ) t9) A9
set_option maxHeartbeats 4000000 in
set_option maxRecDepth 100000 in
theorem kX1_isSign (l : Launch) (D : va_G) (cI cB : ClassId) (sz : Nat) (x0 : Int32) : MetW l yX1_isSign (WK yX1_isSign cX1_isSign 1 (some .boolean)) rmX1_isSign D (TYS cI cB) (wX1_isSign cI cB  ) sz [.int x0] (qX1_isSign D cI cB  x0) 0 0 := by
  refine met_std (by decide) rfl (Nat.le_of_ble_eq_true rfl) ?_
  intro p e s m below meth c A ls H hx hb hr hml hown hts hlocks hA hP hK hD hS hNW hl
  have hl : lv_has ls 1 [(0, .int x0)] := hl
  refine lv_iload_n hx hb dX1_isSign_0 rfl (lv_at hl 0 rfl) ?_
  refine lv_bipush (v := 9) hx hb dX1_isSign_1 (by decide) ?_
  refine lv_icmp_le (tgt := 10) hx hb dX1_isSign_3 (by decide) (fun c_3 => ?_) (fun c_3 => ?_)
  · skip
    refine lv_iconst (v := 0) hx hb dX1_isSign_10 (by decide) ?_
    have hf9 : 0 = fX1_isSign x0 := by simp only [fX1_isSign, if_pos c_3]
    exact W.zret hx hb hr (by decide) (fun t9 ht9 hW9 => ⟨⟨0, (), rfl, hf9, ⟨by rw [ht9]; exact hP, va_K.moved hW9.alike hK, hD⟩⟩, hS.F ht9⟩) hS.2.2 dX1_isSign_11
  · skip
    refine lv_iconst (v := 1) hx hb dX1_isSign_6 (by decide) ?_
    refine lv_goto (tgt := 11) hx hb dX1_isSign_7 (by decide) ?_
    have hf9 : 1 = fX1_isSign x0 := by simp only [fX1_isSign, if_neg c_3]
    exact W.zret hx hb hr (by decide) (fun t9 ht9 hW9 => ⟨⟨1, (), rfl, hf9, ⟨by rw [ht9]; exact hP, va_K.moved hW9.alike hK, hD⟩⟩, hS.F ht9⟩) hS.2.2 dX1_isSign_11
theorem hdX1_isSign : yX1_isSign.cls = RX1 ∧ yX1_isSign.cls ≠ "java/lang/invoke/MethodHandle" ∧ yX1_isSign.cls ≠ "java/lang/invoke/VarHandle" ∧ (parseMethodDescriptor yX1_isSign.desc).map (fun d => d.parameters.length) = some 1 := by decide +kernel
def fX1_isSignBelow (x0 : Int32) : Int32 :=
  if x0 = 11 then (1) else (if x0 = 13 then (1) else (0))
theorem zX1_isSignBelow (x0 : Int32) : (fX1_isSignBelow x0) = 0 ∨ (fX1_isSignBelow x0) = 1 := by unfold fX1_isSignBelow; (repeat' split) <;> first | exact Or.inl rfl | exact Or.inr rfl
abbrev wX1_isSignBelow (cI cB : ClassId) : va_W := []
abbrev rmX1_isSignBelow : Room := { frames := 0, cells := 0, slots := 0, locals := 0 }
abbrev qX1_isSignBelow (D : va_G) (cI cB : ClassId) (x0 : Int32) : (Nat → Prop) → Array Value → State → Outcome → State → Prop := fun A9 => va_Qi (fun (r9 : Int32) (u9 : Unit) => r9 = fX1_isSignBelow x0) (fun u9 t9 => atW D (TYS cI cB) A9 (wX1_isSignBelow cI cB  ) t9) A9
set_option maxHeartbeats 4000000 in
set_option maxRecDepth 100000 in
theorem kX1_isSignBelow (l : Launch) (D : va_G) (cI cB : ClassId) (sz : Nat) (x0 : Int32) : MetW l yX1_isSignBelow (WK yX1_isSignBelow cX1_isSignBelow 1 (some .boolean)) rmX1_isSignBelow D (TYS cI cB) (wX1_isSignBelow cI cB  ) sz [.int x0] (qX1_isSignBelow D cI cB  x0) 0 0 := by
  refine met_std (by decide) rfl (Nat.le_of_ble_eq_true rfl) ?_
  intro p e s m below meth c A ls H hx hb hr hml hown hts hlocks hA hP hK hD hS hNW hl
  have hl : lv_has ls 1 [(0, .int x0)] := hl
  refine lv_iload_n hx hb dX1_isSignBelow_0 rfl (lv_at hl 0 rfl) ?_
  refine lv_bipush (v := 11) hx hb dX1_isSignBelow_1 (by decide) ?_
  refine lv_icmp_eq (tgt := 12) hx hb dX1_isSignBelow_3 (by decide) (fun c_3 => ?_) (fun c_3 => ?_)
  · skip
    refine lv_iconst (v := 1) hx hb dX1_isSignBelow_12 (by decide) ?_
    refine lv_goto (tgt := 17) hx hb dX1_isSignBelow_13 (by decide) ?_
    have hf9 : 1 = fX1_isSignBelow x0 := by simp only [fX1_isSignBelow, if_pos c_3]
    exact W.zret hx hb hr (by decide) (fun t9 ht9 hW9 => ⟨⟨1, (), rfl, hf9, ⟨by rw [ht9]; exact hP, va_K.moved hW9.alike hK, hD⟩⟩, hS.F ht9⟩) hS.2.2 dX1_isSignBelow_17
  · skip
    refine lv_iload_n hx hb dX1_isSignBelow_6 rfl (lv_at hl 0 rfl) ?_
    refine lv_bipush (v := 13) hx hb dX1_isSignBelow_7 (by decide) ?_
    refine lv_icmp_ne (tgt := 16) hx hb dX1_isSignBelow_9 (by decide) (fun c_9 => ?_) (fun c_9 => ?_)
    · skip
      refine lv_iconst (v := 0) hx hb dX1_isSignBelow_16 (by decide) ?_
      have hf9 : 0 = fX1_isSignBelow x0 := by simp only [fX1_isSignBelow, if_neg c_3, if_neg c_9]
      exact W.zret hx hb hr (by decide) (fun t9 ht9 hW9 => ⟨⟨0, (), rfl, hf9, ⟨by rw [ht9]; exact hP, va_K.moved hW9.alike hK, hD⟩⟩, hS.F ht9⟩) hS.2.2 dX1_isSignBelow_17
    · skip
      refine lv_iconst (v := 1) hx hb dX1_isSignBelow_12 (by decide) ?_
      refine lv_goto (tgt := 17) hx hb dX1_isSignBelow_13 (by decide) ?_
      have hf9 : 1 = fX1_isSignBelow x0 := by simp only [fX1_isSignBelow, if_neg c_3, if_pos c_9]
      exact W.zret hx hb hr (by decide) (fun t9 ht9 hW9 => ⟨⟨1, (), rfl, hf9, ⟨by rw [ht9]; exact hP, va_K.moved hW9.alike hK, hD⟩⟩, hS.F ht9⟩) hS.2.2 dX1_isSignBelow_17
theorem hdX1_isSignBelow : yX1_isSignBelow.cls = RX1 ∧ yX1_isSignBelow.cls ≠ "java/lang/invoke/MethodHandle" ∧ yX1_isSignBelow.cls ≠ "java/lang/invoke/VarHandle" ∧ (parseMethodDescriptor yX1_isSignBelow.desc).map (fun d => d.parameters.length) = some 1 := by decide +kernel
def fX1_digit (x0 : Int32) (v_dF : (Nat → Int32)) : Int32 :=
  if x0 < 0 then (0) else (if 32 ≤ x0 then (0) else ((v_dF (x0 : Int32).toNatClampNeg)))
abbrev wX1_digit (cI cB : ClassId) (a_d a_dg : Nat) (v_below : Int32) (v_dF : (Nat → Int32)) : va_W := [(a_d, .inr (1, [.ref a_dg, .int v_below])), (a_dg, .inl (cI, 32, .inl v_dF))]
abbrev rmX1_digit : Room := { frames := 0, cells := 0, slots := 0, locals := 0 }
abbrev qX1_digit (D : va_G) (cI cB : ClassId) (a_d a_dg : Nat) (v_below : Int32) (v_dF : (Nat → Int32)) (x0 : Int32) : (Nat → Prop) → Array Value → State → Outcome → State → Prop := fun A9 => va_Qi (fun (r9 : Int32) (u9 : Unit) => r9 = fX1_digit x0 v_dF) (fun u9 t9 => atW D (TYS cI cB) A9 (wX1_digit cI cB a_d a_dg v_below v_dF) t9) A9
set_option maxHeartbeats 4000000 in
set_option maxRecDepth 100000 in
theorem kX1_digit (l : Launch) (D : va_G) (cI cB : ClassId) (a_d a_dg : Nat) (sz : Nat) (v_below : Int32) (v_dF : (Nat → Int32)) (x0 : Int32) : MetW l yX1_digit (WK yX1_digit cX1_digit 2 (some .int)) rmX1_digit D (TYS cI cB) (wX1_digit cI cB a_d a_dg v_below v_dF) sz [.ref a_d, .int x0] (qX1_digit D cI cB a_d a_dg v_below v_dF x0) 0 0 := by
  refine met_std (by decide) rfl (Nat.le_of_ble_eq_true rfl) ?_
  intro p e s m below meth c A ls H hx hb hr hml hown hts hlocks hA hP hK hD hS hNW hl
  have hl : lv_has ls 2 [(0, .ref a_d), (1, .int x0)] := hl
  have q_0 := hts _ (List.mem_cons_of_mem _ wd_129)
  refine lv_iload_n hx hb dX1_digit_0 rfl (lv_at hl 1 rfl) ?_
  refine lv_if_lt (tgt := 19) hx hb dX1_digit_1 (by decide) (fun c_1 => ?_) (fun c_1 => ?_)
  · skip
    refine lv_iconst (v := 0) hx hb dX1_digit_19 (by decide) ?_
    have hf9 : 0 = fX1_digit x0 v_dF := by simp only [fX1_digit, if_pos c_1]
    exact W.iret hx hb hr (fun t9 ht9 hW9 => ⟨⟨0, (), rfl, hf9, ⟨by rw [ht9]; exact hP, va_K.moved hW9.alike hK, hD⟩⟩, hS.F ht9⟩) hS.2.2 dX1_digit_20
  · skip
    refine lv_iload_n hx hb dX1_digit_4 rfl (lv_at hl 1 rfl) ?_
    refine lv_bipush (v := 32) hx hb dX1_digit_5 (by decide) ?_
    refine lv_icmp_ge (tgt := 19) hx hb dX1_digit_7 (by decide) (fun c_7 => ?_) (fun c_7 => ?_)
    · skip
      refine lv_iconst (v := 0) hx hb dX1_digit_19 (by decide) ?_
      have hf9 : 0 = fX1_digit x0 v_dF := by simp only [fX1_digit, if_neg c_1, if_pos c_7]
      exact W.iret hx hb hr (fun t9 ht9 hW9 => ⟨⟨0, (), rfl, hf9, ⟨by rw [ht9]; exact hP, va_K.moved hW9.alike hK, hD⟩⟩, hS.F ht9⟩) hS.2.2 dX1_digit_20
    · skip
      refine lv_aload_n hx hb dX1_digit_10 rfl (lv_at hl 0 rfl) ?_
      refine va_get (D := D) (ci := 1) (v := .ref a_dg) (C := RX1) (T := TX1) (N := 2) hx hb hts in_X1 hown hK hP 0 rfl rfl 0 (by decide) q_0 (fun _ h9 => h9) rfl dX1_digit_11 ?_
      refine lv_iload_n hx hb dX1_digit_14 rfl (lv_at hl 1 rfl) ?_
      refine va_iald hx hb hK hP 1 0 rfl rfl (by first | assumption | exact vin_of (b := 32) (by decide) hI9 (by assumption) | exact vin_of (b := 32) (by decide) (by assumption) (by assumption) | exact vin_of (b := 32) (by decide) (Int32.not_lt.mp (by assumption)) (by assumption) | exact vin_dn (by decide) (by assumption) hI9) dX1_digit_15 ?_
      refine lv_goto (tgt := 20) hx hb dX1_digit_16 (by decide) ?_
      have hf9 : (v_dF (x0 : Int32).toNatClampNeg) = fX1_digit x0 v_dF := by simp only [fX1_digit, if_neg c_1, if_neg c_7]
      exact W.iret hx hb hr (fun t9 ht9 hW9 => ⟨⟨(v_dF (x0 : Int32).toNatClampNeg), (), rfl, hf9, ⟨by rw [ht9]; exact hP, va_K.moved hW9.alike hK, hD⟩⟩, hS.F ht9⟩) hS.2.2 dX1_digit_20
theorem hdX1_digit : yX1_digit.cls = RX1 ∧ yX1_digit.cls ≠ "java/lang/invoke/MethodHandle" ∧ yX1_digit.cls ≠ "java/lang/invoke/VarHandle" ∧ (parseMethodDescriptor yX1_digit.desc).map (fun d => d.parameters.length) = some 1 := by decide +kernel
def LX1_isLongerThan_8 (v_dF : (Nat → Int32)) : Nat → (Int32 × Int32) → (Int32 × Int32)
  | 0, w_8 => w_8
  | n9 + 1, w_8 =>
    if 32 ≤ w_8.2 then ((w_8.1, w_8.2)) else (let m_32 : Int32 := (if w_8.1 = 0 then (if (v_dF (w_8.2 : Int32).toNatClampNeg) = 0 then (0) else (1)) else (1)); let x_33 := w_8.2 + 1; LX1_isLongerThan_8 v_dF n9 (m_32, x_33))
def fX1_isLongerThan (x0 : Int32) (v_dF : (Nat → Int32)) : Int32 :=
  let x_7 := (if x0 < 0 then 0 else x0)
  let g_8 := LX1_isLongerThan_8 v_dF (((32 : Int32).toInt - (x_7 : Int32).toInt).toNat + 1) (0, x_7)
  g_8.1
theorem zX1_isLongerThan (x0 : Int32) (v_dF : (Nat → Int32)) : (fX1_isLongerThan x0 v_dF) = 0 ∨ (fX1_isLongerThan x0 v_dF) = 1 := by unfold fX1_isLongerThan; (repeat' split) <;> first | exact Or.inl rfl | exact Or.inr rfl
abbrev wX1_isLongerThan (cI cB : ClassId) (a_d a_dg : Nat) (v_below : Int32) (v_dF : (Nat → Int32)) : va_W := [(a_d, .inr (1, [.ref a_dg, .int v_below])), (a_dg, .inl (cI, 32, .inl v_dF))]
abbrev rmX1_isLongerThan : Room := { frames := 1, cells := 0, slots := 0, locals := 21 }
abbrev qX1_isLongerThan (D : va_G) (cI cB : ClassId) (a_d a_dg : Nat) (v_below : Int32) (v_dF : (Nat → Int32)) (x0 : Int32) : (Nat → Prop) → Array Value → State → Outcome → State → Prop := fun A9 => va_Qi (fun (r9 : Int32) (u9 : Unit) => r9 = fX1_isLongerThan x0 v_dF) (fun u9 t9 => atW D (TYS cI cB) A9 (wX1_isLongerThan cI cB a_d a_dg v_below v_dF) t9) A9
set_option maxHeartbeats 4000000 in
set_option maxRecDepth 100000 in
theorem kX1_isLongerThan (l : Launch) (D : va_G) (cI cB : ClassId) (a_d a_dg : Nat) (sz : Nat) (v_below : Int32) (v_dF : (Nat → Int32)) (x0 : Int32) : MetW l yX1_isLongerThan (WK yX1_isLongerThan cX1_isLongerThan 4 (some .boolean)) rmX1_isLongerThan D (TYS cI cB) (wX1_isLongerThan cI cB a_d a_dg v_below v_dF) sz [.ref a_d, .int x0] (qX1_isLongerThan D cI cB a_d a_dg v_below v_dF x0) 0 0 := by
  refine met_std (by decide) rfl (Nat.le_of_ble_eq_true rfl) ?_
  intro p e s m below meth c A ls H hx hb hr hml hown hts hlocks hA hP hK hD hS hNW hl
  have hl : lv_has ls 4 [(0, .ref a_d), (1, .int x0)] := hl
  have q_0 := hts _ (List.mem_cons_of_mem _ wd_154)
  have q_1 := hts _ (List.mem_cons_of_mem _ wd_155)
  have q_2 := hts _ (List.mem_cons_of_mem _ wd_156)
  have q_3 := hts _ (List.mem_cons_of_mem _ wd_157)
  have q_4 := hts _ (List.mem_cons_of_mem _ wd_129)
  refine lv_iconst (v := 0) hx hb dX1_isLongerThan_0 (by decide) ?_
  refine lv_istore_n (lv' := [(2, .int 0), (0, .ref a_d), (1, .int x0)]) hx hb dX1_isLongerThan_1 rfl hl (by decide) rfl (fun ls hl => ?_)
  refine lv_iload_n hx hb dX1_isLongerThan_2 rfl (lv_at hl 2 rfl) ?_
  refine lv_iconst (v := 0) hx hb dX1_isLongerThan_3 (by decide) ?_
  refine va_mmax hx hb (hml.trans hl.1.symm) hown q_0 q_1 q_2 q_3 (Nat.le_of_ble_eq_true rfl) (Nat.le_of_ble_eq_true rfl) (Nat.zero_le _) (Nat.zero_le _) dX1_isLongerThan_4 ?_
  refine lv_topi (fun x_7 ex_7 => ?_)
  refine lv_istore_n (lv' := [(3, .int x_7), (2, .int 0), (0, .ref a_d), (1, .int x0)]) hx hb dX1_isLongerThan_7 rfl hl (by decide) rfl (fun ls hl => ?_)
  obtain ⟨g_8, eg_8⟩ : ∃ z : (Int32 × Int32), z = LX1_isLongerThan_8 v_dF (((32 : Int32).toInt - (x_7 : Int32).toInt).toNat + 1) (0, x_7) := ⟨_, rfl⟩
  have K_8_0 : ∀ (H : Heap) (locs : List Loc), va_P D vwCl (wX1_isLongerThan cI cB a_d a_dg v_below v_dF) H → va_D A (wX1_isLongerThan cI cB a_d a_dg v_below v_dF) → va_S A s.heap H locs → ∀ (ls : Array Slot), lv_has ls 4 [(0, .ref a_d), (1, .int x0), (2, .int g_8.1), (3, .int g_8.2)] → W p l e rmX1_isLongerThan s m ([.ref a_d, .int x0] : List Value).toArray below meth c H locs 0 0 (MQ below (qX1_isLongerThan D cI cB a_d a_dg v_below v_dF x0 A) ([.ref a_d, .int x0] : List Value).toArray s 0 0 A) (F0 m 39 ls []) := by
    intro H locs hP hD hS ls hl
    refine lv_iload_n hx hb dX1_isLongerThan_39 rfl (lv_at hl 2 rfl) ?_
    have hf9 : g_8.1 = fX1_isLongerThan x0 v_dF := by subst eg_8; subst ex_7; simp only [fX1_isLongerThan]
    exact W.zret hx hb hr (zb_narrow (by assumption)) (fun t9 ht9 hW9 => ⟨⟨g_8.1, (), rfl, hf9, ⟨by rw [ht9]; exact hP, va_K.moved hW9.alike hK, hD⟩⟩, hS.F ht9⟩) hS.2.2 dX1_isLongerThan_40
  have lp_8 : ∀ (n9 : Nat) (w_8 : (Int32 × Int32)), ((32 : Int32).toInt - (w_8.2 : Int32).toInt).toNat < n9 → LX1_isLongerThan_8 v_dF n9 w_8 = g_8 → ∀ (H : Heap) (locs : List Loc), va_P D vwCl (wX1_isLongerThan cI cB a_d a_dg v_below v_dF) H → va_D A (wX1_isLongerThan cI cB a_d a_dg v_below v_dF) → va_S A s.heap H locs → ∀ (ls : Array Slot), lv_has ls 4 [(0, .ref a_d), (1, .int x0), (2, .int w_8.1), (3, .int w_8.2)] → W p l e rmX1_isLongerThan s m ([.ref a_d, .int x0] : List Value).toArray below meth c H locs 0 0 (MQ below (qX1_isLongerThan D cI cB a_d a_dg v_below v_dF x0 A) ([.ref a_d, .int x0] : List Value).toArray s 0 0 A) (F0 m 8 ls []) := by
    intro n9
    induction n9 with
    | zero => intro w_8 hm9; exact absurd hm9 (Nat.not_lt_zero _)
    | succ n9 ih =>
      intro w_8 hm9 hL9 H locs hP hD hS ls hl
      refine lv_iload_n hx hb dX1_isLongerThan_8 rfl (lv_at hl 3 rfl) ?_
      refine lv_bipush (v := 32) hx hb dX1_isLongerThan_9 (by decide) ?_
      refine lv_icmp_ge (tgt := 39) hx hb dX1_isLongerThan_11 (by decide) (fun c_11 => ?_) (fun c_11 => ?_)
      · skip
        have hg9 : (w_8.1, w_8.2) = g_8 := by rw [← hL9]; simp only [LX1_isLongerThan_8, if_pos c_11]
        subst hg9
        exact K_8_0 _ _ hP hD hS ls (lv_sub hl [0, 1, 2, 3] rfl)
      · skip
        refine lv_iload_n hx hb dX1_isLongerThan_14 rfl (lv_at hl 2 rfl) ?_
        have J_32 : ∀ (m_32 : Int32), m_32 = (if w_8.1 = 0 then (if (v_dF (w_8.2 : Int32).toNatClampNeg) = 0 then (0) else (1)) else (1)) → ∀ (H : Heap) (locs : List Loc), va_P D vwCl (wX1_isLongerThan cI cB a_d a_dg v_below v_dF) H → va_D A (wX1_isLongerThan cI cB a_d a_dg v_below v_dF) → va_S A s.heap H locs → ∀ (ls : Array Slot), lv_has ls 4 [(0, .ref a_d), (1, .int x0), (2, .int w_8.1), (3, .int w_8.2)] → W p l e rmX1_isLongerThan s m ([.ref a_d, .int x0] : List Value).toArray below meth c H locs 0 0 (MQ below (qX1_isLongerThan D cI cB a_d a_dg v_below v_dF x0 A) ([.ref a_d, .int x0] : List Value).toArray s 0 0 A) (F0 m 32 ls [.int m_32]) := by
          intro m_32 em_32 H locs hP hD hS ls hl
          have zm_32_0 : m_32 = 0 ∨ m_32 = 1 := by rw [em_32]; (repeat' split) <;> first | exact Or.inl rfl | exact Or.inr rfl
          refine lv_istore_n (lv' := [(2, .int m_32), (0, .ref a_d), (1, .int x0), (3, .int w_8.2)]) hx hb dX1_isLongerThan_32 rfl hl (by decide) rfl (fun ls hl => ?_)
          obtain ⟨x_33, ex_33⟩ : ∃ z : Int32, z = w_8.2 + 1 := ⟨_, rfl⟩
          refine lv_iinc (v := x_33) (lv' := [(3, .int x_33), (2, .int m_32), (0, .ref a_d), (1, .int x0)]) hx hb dX1_isLongerThan_33 hl (k := 3) rfl (by rw [ex_33]; rfl) (by decide) rfl (fun ls hl => ?_)
          refine lv_goto (tgt := 8) hx hb dX1_isLongerThan_36 (by decide) ?_
          exact ih (m_32, x_33) (by subst ex_33; subst em_32;  exact Nat.lt_of_lt_of_le (ms_up c_11) (Nat.le_of_lt_succ hm9)) (by rw [← hL9]; subst ex_33; subst em_32; simp only [LX1_isLongerThan_8, if_neg c_11]) _ _ hP hD hS ls (lv_sub hl [2, 3, 1, 0] rfl)
        refine lv_if_ne (tgt := 27) hx hb dX1_isLongerThan_15 (by decide) (fun c_15 => ?_) (fun c_15 => ?_)
        · skip
          refine lv_iconst (v := 1) hx hb dX1_isLongerThan_27 (by decide) ?_
          refine lv_goto (tgt := 32) hx hb dX1_isLongerThan_28 (by decide) ?_
          exact J_32 _ (by simp only [if_neg c_15]) _ _ hP hD hS ls (lv_sub hl [0, 1, 2, 3] rfl)
        · skip
          refine lv_aload_n hx hb dX1_isLongerThan_18 rfl (lv_at hl 0 rfl) ?_
          refine va_get (D := D) (ci := 1) (v := .ref a_dg) (C := RX1) (T := TX1) (N := 2) hx hb hts in_X1 hown hK hP 0 rfl rfl 0 (by decide) q_4 (fun _ h9 => h9) rfl dX1_isLongerThan_19 ?_
          refine lv_iload_n hx hb dX1_isLongerThan_22 rfl (lv_at hl 3 rfl) ?_
          refine va_iald hx hb hK hP 1 0 rfl rfl (by first | assumption | exact vin_of (b := 32) (by decide) hI9 (by assumption) | exact vin_of (b := 32) (by decide) (by assumption) (by assumption) | exact vin_of (b := 32) (by decide) (Int32.not_lt.mp (by assumption)) (by assumption) | exact vin_dn (by decide) (by assumption) hI9) dX1_isLongerThan_23 ?_
          refine lv_if_eq (tgt := 31) hx hb dX1_isLongerThan_24 (by decide) (fun c_24 => ?_) (fun c_24 => ?_)
          · skip
            refine lv_iconst (v := 0) hx hb dX1_isLongerThan_31 (by decide) ?_
            exact J_32 _ (by simp only [if_pos c_15, if_pos c_24]) _ _ hP hD hS ls (lv_sub hl [0, 1, 2, 3] rfl)
          · skip
            refine lv_iconst (v := 1) hx hb dX1_isLongerThan_27 (by decide) ?_
            refine lv_goto (tgt := 32) hx hb dX1_isLongerThan_28 (by decide) ?_
            exact J_32 _ (by simp only [if_pos c_15, if_neg c_24]) _ _ hP hD hS ls (lv_sub hl [0, 1, 2, 3] rfl)
  exact lp_8 (((32 : Int32).toInt - (x_7 : Int32).toInt).toNat + 1) (0, x_7) (Nat.lt_succ_self _) eg_8.symm _ _ hP hD hS ls (lv_sub hl [2, 3, 1, 0] rfl)
theorem hdX1_isLongerThan : yX1_isLongerThan.cls = RX1 ∧ yX1_isLongerThan.cls ≠ "java/lang/invoke/MethodHandle" ∧ yX1_isLongerThan.cls ≠ "java/lang/invoke/VarHandle" ∧ (parseMethodDescriptor yX1_isLongerThan.desc).map (fun d => d.parameters.length) = some 1 := by decide +kernel
def fX1_sign (v_below : Int32) (v_dF : (Nat → Int32)) : Int32 :=
  let r_2 := fX1_isLongerThan 0 v_dF
  if r_2 = 0 then (0) else (if v_below = 0 then (1) else ((-1)))
abbrev wX1_sign (cI cB : ClassId) (a_d a_dg : Nat) (v_below : Int32) (v_dF : (Nat → Int32)) : va_W := [(a_d, .inr (1, [.ref a_dg, .int v_below])), (a_dg, .inl (cI, 32, .inl v_dF))]
abbrev rmX1_sign : Room := { frames := 2, cells := 0, slots := 0, locals := 44 }
abbrev qX1_sign (D : va_G) (cI cB : ClassId) (a_d a_dg : Nat) (v_below : Int32) (v_dF : (Nat → Int32)) : (Nat → Prop) → Array Value → State → Outcome → State → Prop := fun A9 => va_Qi (fun (r9 : Int32) (u9 : Unit) => r9 = fX1_sign v_below v_dF) (fun u9 t9 => atW D (TYS cI cB) A9 (wX1_sign cI cB a_d a_dg v_below v_dF) t9) A9
set_option maxHeartbeats 4000000 in
set_option maxRecDepth 100000 in
theorem kX1_sign (l : Launch) (D : va_G) (cI cB : ClassId) (a_d a_dg : Nat) (sz : Nat) (v_below : Int32) (v_dF : (Nat → Int32)) : MetW l yX1_sign (WK yX1_sign cX1_sign 1 (some .int)) rmX1_sign D (TYS cI cB) (wX1_sign cI cB a_d a_dg v_below v_dF) sz [.ref a_d] (qX1_sign D cI cB a_d a_dg v_below v_dF) 0 0 := by
  refine met_std (by decide) rfl (Nat.le_of_ble_eq_true rfl) ?_
  intro p e s m below meth c A ls H hx hb hr hml hown hts hlocks hA hP hK hD hS hNW hl
  have hl : lv_has ls 1 [(0, .ref a_d)] := hl
  have q_0 := hts _ (List.mem_cons_of_mem _ wd_134)
  refine lv_aload_n hx hb dX1_sign_0 rfl (lv_at hl 0 rfl) ?_
  refine lv_iconst (v := 0) hx hb dX1_sign_1 (by decide) ?_
  have hPc : va_P D vwCl (wX1_isLongerThan cI cB a_d a_dg v_below v_dF) H := hP.sub [0, 1] rfl
  have hDc : va_D A (wX1_isLongerThan cI cB a_d a_dg v_below v_dF) := hD.sub [0, 1] (by decide) rfl
  have hFc := va_free (wc := (wX1_isLongerThan cI cB a_d a_dg v_below v_dF)) hD hS hA [0, 1] rfl
  refine va_calli (va_runV (As := [.int 0]) (rest := []) ⟨hx, hb, hml, hown, hts⟩ (kX1_isLongerThan l D cI cB a_d a_dg H.size v_below v_dF 0) (cwV 1 hts (gd_V wd_159 wd_160 wd_161 wd_138 wd_153) rfl rfl rfl hdX1_isLongerThan ⟨Nat.le_of_ble_eq_true rfl, Nat.le_of_ble_eq_true rfl⟩) (preV_std (ci := 1) (q0 := 0) hPc hK hDc hNW rfl rfl) rfl rfl hl.1 rfl (lv_room (Nat.le_of_ble_eq_true rfl)) dX1_sign_2 ⟨Nat.zero_le _, Nat.zero_le _⟩) hS (fun q _ h => hFc q h) hFc (fun r_2 u_2 t9 H1 locs ht9 hvm9 hw9 hB9 hz9 hk9 hS => ?_)
  have er_2 : r_2 = fX1_isLongerThan 0 v_dF := hw9
  have zr_2 : r_2 = 0 ∨ r_2 = 1 := by rw [er_2]; exact zX1_isLongerThan _ _
  obtain ⟨hP, hD⟩ := back_std (w1 := (wX1_isLongerThan cI cB a_d a_dg v_below v_dF)) (w2 := (wX1_sign cI cB a_d a_dg v_below v_dF)) (wr := []) hP hD [0, 1] [] [0, 1] rfl rfl (by decide) (by decide) hk9 hFc hB9 ht9 (by decide) rfl
  clear hB9 hk9 hz9 hvm9 ht9 hFc hPc hDc
  generalize H1 = H at hP hS ⊢
  refine lv_if_ne (tgt := 12) hx hb dX1_sign_5 (by decide) (fun c_5 => ?_) (fun c_5 => ?_)
  · skip
    refine lv_aload_n hx hb dX1_sign_12 rfl (lv_at hl 0 rfl) ?_
    refine va_get (D := D) (ci := 1) (v := .int v_below) (C := RX1) (T := TX1) (N := 2) hx hb hts in_X1 hown hK hP 0 rfl rfl 1 (by decide) q_0 (fun _ h9 => h9) rfl dX1_sign_13 ?_
    refine lv_if_eq (tgt := 23) hx hb dX1_sign_16 (by decide) (fun c_16 => ?_) (fun c_16 => ?_)
    · skip
      refine lv_iconst (v := 1) hx hb dX1_sign_23 (by decide) ?_
      have hf9 : 1 = fX1_sign v_below v_dF := by subst er_2; simp only [fX1_sign, if_neg c_5, if_pos c_16]
      exact W.iret hx hb hr (fun t9 ht9 hW9 => ⟨⟨1, (), rfl, hf9, ⟨by rw [ht9]; exact hP, va_K.moved hW9.alike hK, hD⟩⟩, hS.F ht9⟩) hS.2.2 dX1_sign_24
    · skip
      refine lv_iconst (v := (-1)) hx hb dX1_sign_19 (by decide) ?_
      refine lv_goto (tgt := 24) hx hb dX1_sign_20 (by decide) ?_
      have hf9 : (-1) = fX1_sign v_below v_dF := by subst er_2; simp only [fX1_sign, if_neg c_5, if_neg c_16]
      exact W.iret hx hb hr (fun t9 ht9 hW9 => ⟨⟨(-1), (), rfl, hf9, ⟨by rw [ht9]; exact hP, va_K.moved hW9.alike hK, hD⟩⟩, hS.F ht9⟩) hS.2.2 dX1_sign_24
  · skip
    refine lv_iconst (v := 0) hx hb dX1_sign_8 (by decide) ?_
    refine lv_goto (tgt := 24) hx hb dX1_sign_9 (by decide) ?_
    have hf9 : 0 = fX1_sign v_below v_dF := by subst er_2; simp only [fX1_sign, if_pos c_5]
    exact W.iret hx hb hr (fun t9 ht9 hW9 => ⟨⟨0, (), rfl, hf9, ⟨by rw [ht9]; exact hP, va_K.moved hW9.alike hK, hD⟩⟩, hS.F ht9⟩) hS.2.2 dX1_sign_24
theorem hdX1_sign : yX1_sign.cls = RX1 ∧ yX1_sign.cls ≠ "java/lang/invoke/MethodHandle" ∧ yX1_sign.cls ≠ "java/lang/invoke/VarHandle" ∧ (parseMethodDescriptor yX1_sign.desc).map (fun d => d.parameters.length) = some 0 := by decide +kernel
def LX1_setNumber_20 : Nat → ((Nat → Int32) × Int64 × Int32) → ((Nat → Int32) × Int64 × Int32)
  | 0, w_20 => w_20
  | n9 + 1, w_20 =>
    if 32 ≤ w_20.2.2 then ((w_20.1, w_20.2.1, w_20.2.2)) else (let f_42 := upd w_20.1 (w_20.2.2 : Int32).toNatClampNeg (((if 0 < (w_20.2.1 - w_20.2.1 / 10 * 10) then (w_20.2.1 - w_20.2.1 / 10 * 10) else -(w_20.2.1 - w_20.2.1 / 10 * 10)) : Int64).toInt32); let x_48 := (w_20.2.1 / 10); let x_49 := w_20.2.2 + 1; LX1_setNumber_20 n9 (f_42, x_48, x_49))
def fX1_setNumber (x0 : Int64) (v_below : Int32) (v_dF : (Nat → Int32)) : (Int32 × (Nat → Int32)) :=
  let m_12 : Int32 := (if 0 ≤ (lg_cmp (x0) (0)) then (0) else (1))
  let g_20 := LX1_setNumber_20  (((32 : Int32).toInt - (0 : Int32).toInt).toNat + 1) (v_dF, x0, 0)
  (m_12, g_20.1)
abbrev wX1_setNumber (cI cB : ClassId) (a_d a_dg : Nat) (v_below : Int32) (v_dF : (Nat → Int32)) : va_W := [(a_d, .inr (1, [.ref a_dg, .int v_below])), (a_dg, .inl (cI, 32, .inl v_dF))]
abbrev rmX1_setNumber : Room := { frames := 1, cells := 0, slots := 0, locals := 21 }
abbrev qX1_setNumber (D : va_G) (cI cB : ClassId) (a_d a_dg : Nat) (v_below : Int32) (v_dF : (Nat → Int32)) (x0 : Int64) : (Nat → Prop) → Array Value → State → Outcome → State → Prop := fun A9 => va_Qv (fun (u9 : (Int32 × (Nat → Int32))) => u9 = fX1_setNumber x0 v_below v_dF) (fun u9 t9 => atW D (TYS cI cB) A9 (wX1_setNumber cI cB a_d a_dg u9.1 u9.2) t9) A9
set_option maxHeartbeats 4000000 in
set_option maxRecDepth 100000 in
theorem kX1_setNumber (l : Launch) (D : va_G) (cI cB : ClassId) (a_d a_dg : Nat) (sz : Nat) (v_below : Int32) (v_dF : (Nat → Int32)) (x0 : Int64) : MetW l yX1_setNumber (WK yX1_setNumber cX1_setNumber 6 none) rmX1_setNumber D (TYS cI cB) (wX1_setNumber cI cB a_d a_dg v_below v_dF) sz [.ref a_d, .long x0] (qX1_setNumber D cI cB a_d a_dg v_below v_dF x0) 0 0 := by
  refine met_std (by decide) rfl (Nat.le_of_ble_eq_true rfl) ?_
  intro p e s m below meth c A ls H hx hb hr hml hown hts hlocks hA hP hK hD hS hNW hl
  have hl : lv_has ls 6 [(0, .ref a_d), (1, .long x0)] := hl
  have q_0 := hts _ (List.mem_cons_of_mem _ wd_134)
  have q_1 := hts _ (List.mem_cons_of_mem _ wd_129)
  have q_2 := hts _ (List.mem_cons_of_mem _ wd_163)
  have q_3 := hts _ (List.mem_cons_of_mem _ wd_164)
  have q_4 := hts _ (List.mem_cons_of_mem _ wd_165)
  have q_5 := hts _ (List.mem_cons_of_mem _ wd_156)
  have q_6 := hts _ (List.mem_cons_of_mem _ wd_166)
  refine lv_aload_n hx hb dX1_setNumber_0 rfl (lv_at hl 0 rfl) ?_
  refine lv_lload_n hx hb dX1_setNumber_1 rfl (lv_at hl 1 rfl) ?_
  refine lv_lconst (v := 0) hx hb dX1_setNumber_2 (by decide) ?_
  refine W.lcmp hx hb dX1_setNumber_3 ?_
  have J_12 : ∀ (m_12 : Int32), m_12 = (if 0 ≤ (lg_cmp (x0) (0)) then (0) else (1)) → ∀ (H : Heap) (locs : List Loc), va_P D vwCl (wX1_setNumber cI cB a_d a_dg v_below v_dF) H → va_D A (wX1_setNumber cI cB a_d a_dg v_below v_dF) → va_S A s.heap H locs → ∀ (ls : Array Slot), lv_has ls 6 [(0, .ref a_d), (1, .long x0)] → W p l e rmX1_setNumber s m ([.ref a_d, .long x0] : List Value).toArray below meth c H locs 0 0 (MQ below (qX1_setNumber D cI cB a_d a_dg v_below v_dF x0 A) ([.ref a_d, .long x0] : List Value).toArray s 0 0 A) (F0 m 12 ls [.int m_12, .ref a_d]) := by
    intro m_12 em_12 H locs hP hD hS ls hl
    have zm_12_0 : m_12 = 0 ∨ m_12 = 1 := by rw [em_12]; (repeat' split) <;> first | exact Or.inl rfl | exact Or.inr rfl
    refine va_put (D := D) (ci := 1) (v := .int m_12) (ty := .boolean) (C := RX1) (T := TX1) (N := 2) hx hb hts in_X1 tyX1 tyX1_ok nmX1 hown hK hP hD hS 0 rfl rfl 1 (by decide) q_0 (fun _ h9 => h9) rfl (by decide +kernel) (zb_narrow (by assumption)) (zb_fits (by assumption)) (Nat.le_of_ble_eq_true rfl) dX1_setNumber_12 (fun H locs hP hD hS => ?_)
    have hP : va_P D vwCl (wX1_setNumber cI cB a_d a_dg m_12 v_dF) H := hP
    have hD : va_D A (wX1_setNumber cI cB a_d a_dg m_12 v_dF) := hD
    refine lv_lload_n hx hb dX1_setNumber_15 rfl (lv_at hl 1 rfl) ?_
    refine lv_lstore_n (lv' := [(3, .long x0), (0, .ref a_d), (1, .long x0)]) hx hb dX1_setNumber_16 rfl hl (by decide) rfl (fun ls hl => ?_)
    refine lv_iconst (v := 0) hx hb dX1_setNumber_17 (by decide) ?_
    refine lv_istore (lv' := [(5, .int 0), (3, .long x0), (0, .ref a_d), (1, .long x0)]) hx hb dX1_setNumber_18 hl (by decide) rfl (fun ls hl => ?_)
    obtain ⟨g_20, eg_20⟩ : ∃ z : ((Nat → Int32) × Int64 × Int32), z = LX1_setNumber_20  (((32 : Int32).toInt - (0 : Int32).toInt).toNat + 1) (v_dF, x0, 0) := ⟨_, rfl⟩
    have K_20_0 : ∀ (H : Heap) (locs : List Loc), va_P D vwCl (wX1_setNumber cI cB a_d a_dg m_12 g_20.1) H → va_D A (wX1_setNumber cI cB a_d a_dg m_12 g_20.1) → va_S A s.heap H locs → ∀ (ls : Array Slot), lv_has ls 6 [(0, .ref a_d), (1, .long x0), (3, .long g_20.2.1), (5, .int g_20.2.2)] → W p l e rmX1_setNumber s m ([.ref a_d, .long x0] : List Value).toArray below meth c H locs 0 0 (MQ below (qX1_setNumber D cI cB a_d a_dg v_below v_dF x0 A) ([.ref a_d, .long x0] : List Value).toArray s 0 0 A) (F0 m 55 ls []) := by
      intro H locs hP hD hS ls hl
      have hf9 : (m_12, g_20.1) = fX1_setNumber x0 v_below v_dF := by subst eg_20; subst em_12; simp only [fX1_setNumber]
      exact W.vret hx hb hr (fun t9 ht9 hW9 => ⟨⟨(m_12, g_20.1), rfl, hf9, ⟨by rw [ht9]; exact hP, va_K.moved hW9.alike hK, hD⟩⟩, hS.F ht9⟩) hS.2.2 dX1_setNumber_55
    have lp_20 : ∀ (n9 : Nat) (w_20 : ((Nat → Int32) × Int64 × Int32)), ((32 : Int32).toInt - (w_20.2.2 : Int32).toInt).toNat < n9 → 0 ≤ w_20.2.2 → LX1_setNumber_20  n9 w_20 = g_20 → ∀ (H : Heap) (locs : List Loc), va_P D vwCl (wX1_setNumber cI cB a_d a_dg m_12 w_20.1) H → va_D A (wX1_setNumber cI cB a_d a_dg m_12 w_20.1) → va_S A s.heap H locs → ∀ (ls : Array Slot), lv_has ls 6 [(0, .ref a_d), (1, .long x0), (3, .long w_20.2.1), (5, .int w_20.2.2)] → W p l e rmX1_setNumber s m ([.ref a_d, .long x0] : List Value).toArray below meth c H locs 0 0 (MQ below (qX1_setNumber D cI cB a_d a_dg v_below v_dF x0 A) ([.ref a_d, .long x0] : List Value).toArray s 0 0 A) (F0 m 20 ls []) := by
      intro n9
      induction n9 with
      | zero => intro w_20 hm9; exact absurd hm9 (Nat.not_lt_zero _)
      | succ n9 ih =>
        intro w_20 hm9 hI9 hL9 H locs hP hD hS ls hl
        refine lv_iload hx hb dX1_setNumber_20 (lv_at hl 3 rfl) ?_
        refine lv_bipush (v := 32) hx hb dX1_setNumber_22 (by decide) ?_
        refine lv_icmp_ge (tgt := 55) hx hb dX1_setNumber_24 (by decide) (fun c_24 => ?_) (fun c_24 => ?_)
        · skip
          have hg9 : (w_20.1, w_20.2.1, w_20.2.2) = g_20 := by rw [← hL9]; simp only [LX1_setNumber_20, if_pos c_24]
          subst hg9
          exact K_20_0 _ _ hP hD hS ls (lv_sub hl [0, 1, 2, 3] rfl)
        · skip
          refine lv_aload_n hx hb dX1_setNumber_27 rfl (lv_at hl 0 rfl) ?_
          refine va_get (D := D) (ci := 1) (v := .ref a_dg) (C := RX1) (T := TX1) (N := 2) hx hb hts in_X1 hown hK hP 0 rfl rfl 0 (by decide) q_1 (fun _ h9 => h9) rfl dX1_setNumber_28 ?_
          refine lv_iload hx hb dX1_setNumber_31 (lv_at hl 3 rfl) ?_
          refine lv_lload_n hx hb dX1_setNumber_33 rfl (lv_at hl 2 rfl) ?_
          refine lv_ldc2 (v := 10) hx hb hown q_2 dX1_setNumber_34 ?_
          refine lv_lrem hx hb dX1_setNumber_37 (by decide) ?_
          refine va_mabs_long hx hb (hml.trans hl.1.symm) hown q_3 q_4 q_5 q_6 (Nat.le_of_ble_eq_true rfl) (Nat.le_of_ble_eq_true rfl) (Nat.zero_le _) (Nat.zero_le _) dX1_setNumber_38 ?_
          refine lv_l2i hx hb dX1_setNumber_41 rfl ?_
          refine va_iast hx hb hK hP hD hS 1 0 rfl rfl (by first | assumption | exact vin_of (b := 32) (by decide) hI9 (by assumption) | exact vin_of (b := 32) (by decide) (by assumption) (by assumption) | exact vin_of (b := 32) (by decide) (Int32.not_lt.mp (by assumption)) (by assumption) | exact vin_dn (by decide) (by assumption) hI9) dX1_setNumber_42 (fun H locs hP hD hS => ?_)
          obtain ⟨f_42, ef_42⟩ : ∃ z : Nat → Int32, z = upd w_20.1 (w_20.2.2 : Int32).toNatClampNeg (((if 0 < (w_20.2.1 - w_20.2.1 / 10 * 10) then (w_20.2.1 - w_20.2.1 / 10 * 10) else -(w_20.2.1 - w_20.2.1 / 10 * 10)) : Int64).toInt32) := ⟨_, rfl⟩
          have hP : va_P D vwCl (wX1_setNumber cI cB a_d a_dg m_12 (upd w_20.1 (w_20.2.2 : Int32).toNatClampNeg (((if 0 < (w_20.2.1 - w_20.2.1 / 10 * 10) then (w_20.2.1 - w_20.2.1 / 10 * 10) else -(w_20.2.1 - w_20.2.1 / 10 * 10)) : Int64).toInt32))) H := hP
          have hD : va_D A (wX1_setNumber cI cB a_d a_dg m_12 (upd w_20.1 (w_20.2.2 : Int32).toNatClampNeg (((if 0 < (w_20.2.1 - w_20.2.1 / 10 * 10) then (w_20.2.1 - w_20.2.1 / 10 * 10) else -(w_20.2.1 - w_20.2.1 / 10 * 10)) : Int64).toInt32))) := hD
          rw [← ef_42] at hP hD
          refine lv_lload_n hx hb dX1_setNumber_43 rfl (lv_at hl 2 rfl) ?_
          refine lv_ldc2 (v := 10) hx hb hown q_2 dX1_setNumber_44 ?_
          refine lv_ldiv hx hb dX1_setNumber_47 (by decide) ?_
          refine lv_topl (fun x_48 ex_48 => ?_)
          refine lv_lstore_n (lv' := [(3, .long x_48), (0, .ref a_d), (1, .long x0), (5, .int w_20.2.2)]) hx hb dX1_setNumber_48 rfl hl (by decide) rfl (fun ls hl => ?_)
          obtain ⟨x_49, ex_49⟩ : ∃ z : Int32, z = w_20.2.2 + 1 := ⟨_, rfl⟩
          refine lv_iinc (v := x_49) (lv' := [(5, .int x_49), (3, .long x_48), (0, .ref a_d), (1, .long x0)]) hx hb dX1_setNumber_49 hl (k := 3) rfl (by rw [ex_49]; rfl) (by decide) rfl (fun ls hl => ?_)
          refine lv_goto (tgt := 20) hx hb dX1_setNumber_52 (by decide) ?_
          exact ih (f_42, x_48, x_49) (by subst ex_49; subst ex_48; subst ef_42;  exact Nat.lt_of_lt_of_le (ms_up c_24) (Nat.le_of_lt_succ hm9)) (by subst ex_49; subst ex_48; subst ef_42;  exact nn_up hI9 c_24) (by rw [← hL9]; subst ex_49; subst ex_48; subst ef_42; simp only [LX1_setNumber_20, if_neg c_24]) _ _ hP hD hS ls (lv_sub hl [2, 3, 1, 0] rfl)
    exact lp_20 (((32 : Int32).toInt - (0 : Int32).toInt).toNat + 1) (v_dF, x0, 0) (Nat.lt_succ_self _) (by decide) eg_20.symm _ _ hP hD hS ls (lv_sub hl [2, 3, 1, 0] rfl)
  refine lv_if_ge (tgt := 11) hx hb dX1_setNumber_4 (by decide) (fun c_4 => ?_) (fun c_4 => ?_)
  · skip
    refine lv_iconst (v := 0) hx hb dX1_setNumber_11 (by decide) ?_
    exact J_12 _ (by simp only [if_pos c_4]) _ _ hP hD hS ls (lv_sub hl [0, 1] rfl)
  · skip
    refine lv_iconst (v := 1) hx hb dX1_setNumber_7 (by decide) ?_
    refine lv_goto (tgt := 12) hx hb dX1_setNumber_8 (by decide) ?_
    exact J_12 _ (by simp only [if_neg c_4]) _ _ hP hD hS ls (lv_sub hl [0, 1] rfl)
theorem hdX1_setNumber : yX1_setNumber.cls = RX1 ∧ yX1_setNumber.cls ≠ "java/lang/invoke/MethodHandle" ∧ yX1_setNumber.cls ≠ "java/lang/invoke/VarHandle" ∧ (parseMethodDescriptor yX1_setNumber.desc).map (fun d => d.parameters.length) = some 1 := by decide +kernel
def LX1_size_5 (v_dF : (Nat → Int32)) : Nat → (Int64 × Int32) → (Int64 × Int32)
  | 0, w_5 => w_5
  | n9 + 1, w_5 =>
    if w_5.2 < 0 then ((w_5.1, w_5.2)) else (let x_22 := ((w_5.1 * 10) + ((v_dF (w_5.2 : Int32).toNatClampNeg) : Int32).toInt64); let x_23 := w_5.2 + (-1); LX1_size_5 v_dF n9 (x_22, x_23))
def fX1_size (v_dF : (Nat → Int32)) : Int64 :=
  let g_5 := LX1_size_5 v_dF (((14 : Int32).toInt + 1).toNat + 1) (0, 14)
  g_5.1
abbrev wX1_size (cI cB : ClassId) (a_d a_dg : Nat) (v_below : Int32) (v_dF : (Nat → Int32)) : va_W := [(a_d, .inr (1, [.ref a_dg, .int v_below])), (a_dg, .inl (cI, 32, .inl v_dF))]
abbrev rmX1_size : Room := { frames := 0, cells := 0, slots := 0, locals := 0 }
abbrev qX1_size (D : va_G) (cI cB : ClassId) (a_d a_dg : Nat) (v_below : Int32) (v_dF : (Nat → Int32)) : (Nat → Prop) → Array Value → State → Outcome → State → Prop := fun A9 => va_Ql (fun (r9 : Int64) (u9 : Unit) => r9 = fX1_size v_dF) (fun u9 t9 => atW D (TYS cI cB) A9 (wX1_size cI cB a_d a_dg v_below v_dF) t9) A9
set_option maxHeartbeats 4000000 in
set_option maxRecDepth 100000 in
theorem kX1_size (l : Launch) (D : va_G) (cI cB : ClassId) (a_d a_dg : Nat) (sz : Nat) (v_below : Int32) (v_dF : (Nat → Int32)) : MetW l yX1_size (WK yX1_size cX1_size 4 (some .long)) rmX1_size D (TYS cI cB) (wX1_size cI cB a_d a_dg v_below v_dF) sz [.ref a_d] (qX1_size D cI cB a_d a_dg v_below v_dF) 0 0 := by
  refine met_std (by decide) rfl (Nat.le_of_ble_eq_true rfl) ?_
  intro p e s m below meth c A ls H hx hb hr hml hown hts hlocks hA hP hK hD hS hNW hl
  have hl : lv_has ls 4 [(0, .ref a_d)] := hl
  have q_0 := hts _ (List.mem_cons_of_mem _ wd_163)
  have q_1 := hts _ (List.mem_cons_of_mem _ wd_129)
  refine lv_lconst (v := 0) hx hb dX1_size_0 (by decide) ?_
  refine lv_lstore_n (lv' := [(1, .long 0), (0, .ref a_d)]) hx hb dX1_size_1 rfl hl (by decide) rfl (fun ls hl => ?_)
  refine lv_bipush (v := 14) hx hb dX1_size_2 (by decide) ?_
  refine lv_istore_n (lv' := [(3, .int 14), (1, .long 0), (0, .ref a_d)]) hx hb dX1_size_4 rfl hl (by decide) rfl (fun ls hl => ?_)
  obtain ⟨g_5, eg_5⟩ : ∃ z : (Int64 × Int32), z = LX1_size_5 v_dF (((14 : Int32).toInt + 1).toNat + 1) (0, 14) := ⟨_, rfl⟩
  have K_5_0 : ∀ (H : Heap) (locs : List Loc), va_P D vwCl (wX1_size cI cB a_d a_dg v_below v_dF) H → va_D A (wX1_size cI cB a_d a_dg v_below v_dF) → va_S A s.heap H locs → ∀ (ls : Array Slot), lv_has ls 4 [(0, .ref a_d), (1, .long g_5.1), (3, .int g_5.2)] → W p l e rmX1_size s m ([.ref a_d] : List Value).toArray below meth c H locs 0 0 (MQ below (qX1_size D cI cB a_d a_dg v_below v_dF A) ([.ref a_d] : List Value).toArray s 0 0 A) (F0 m 29 ls []) := by
    intro H locs hP hD hS ls hl
    refine lv_lload_n hx hb dX1_size_29 rfl (lv_at hl 1 rfl) ?_
    have hf9 : g_5.1 = fX1_size v_dF := by subst eg_5; simp only [fX1_size]
    exact W.lret hx hb hr (fun t9 ht9 hW9 => ⟨⟨g_5.1, (), rfl, hf9, ⟨by rw [ht9]; exact hP, va_K.moved hW9.alike hK, hD⟩⟩, hS.F ht9⟩) hS.2.2 dX1_size_30
  have lp_5 : ∀ (n9 : Nat) (w_5 : (Int64 × Int32)), ((w_5.2 : Int32).toInt + 1).toNat < n9 → w_5.2 ≤ 14 → LX1_size_5 v_dF n9 w_5 = g_5 → ∀ (H : Heap) (locs : List Loc), va_P D vwCl (wX1_size cI cB a_d a_dg v_below v_dF) H → va_D A (wX1_size cI cB a_d a_dg v_below v_dF) → va_S A s.heap H locs → ∀ (ls : Array Slot), lv_has ls 4 [(0, .ref a_d), (1, .long w_5.1), (3, .int w_5.2)] → W p l e rmX1_size s m ([.ref a_d] : List Value).toArray below meth c H locs 0 0 (MQ below (qX1_size D cI cB a_d a_dg v_below v_dF A) ([.ref a_d] : List Value).toArray s 0 0 A) (F0 m 5 ls []) := by
    intro n9
    induction n9 with
    | zero => intro w_5 hm9; exact absurd hm9 (Nat.not_lt_zero _)
    | succ n9 ih =>
      intro w_5 hm9 hI9 hL9 H locs hP hD hS ls hl
      refine lv_iload_n hx hb dX1_size_5 rfl (lv_at hl 2 rfl) ?_
      refine lv_if_lt (tgt := 29) hx hb dX1_size_6 (by decide) (fun c_6 => ?_) (fun c_6 => ?_)
      · skip
        have hg9 : (w_5.1, w_5.2) = g_5 := by rw [← hL9]; simp only [LX1_size_5, if_pos c_6]
        subst hg9
        exact K_5_0 _ _ hP hD hS ls (lv_sub hl [0, 1, 2] rfl)
      · skip
        refine lv_lload_n hx hb dX1_size_9 rfl (lv_at hl 1 rfl) ?_
        refine lv_ldc2 (v := 10) hx hb hown q_0 dX1_size_10 ?_
        refine lv_lmul hx hb dX1_size_13 ?_
        refine lv_aload_n hx hb dX1_size_14 rfl (lv_at hl 0 rfl) ?_
        refine va_get (D := D) (ci := 1) (v := .ref a_dg) (C := RX1) (T := TX1) (N := 2) hx hb hts in_X1 hown hK hP 0 rfl rfl 0 (by decide) q_1 (fun _ h9 => h9) rfl dX1_size_15 ?_
        refine lv_iload_n hx hb dX1_size_18 rfl (lv_at hl 2 rfl) ?_
        refine va_iald hx hb hK hP 1 0 rfl rfl (by first | assumption | exact vin_of (b := 32) (by decide) hI9 (by assumption) | exact vin_of (b := 32) (by decide) (by assumption) (by assumption) | exact vin_of (b := 32) (by decide) (Int32.not_lt.mp (by assumption)) (by assumption) | exact vin_dn (by decide) (by assumption) hI9) dX1_size_19 ?_
        refine lv_i2l hx hb dX1_size_20 rfl ?_
        refine lv_ladd hx hb dX1_size_21 ?_
        refine lv_topl (fun x_22 ex_22 => ?_)
        refine lv_lstore_n (lv' := [(1, .long x_22), (0, .ref a_d), (3, .int w_5.2)]) hx hb dX1_size_22 rfl hl (by decide) rfl (fun ls hl => ?_)
        obtain ⟨x_23, ex_23⟩ : ∃ z : Int32, z = w_5.2 + (-1) := ⟨_, rfl⟩
        refine lv_iinc (v := x_23) (lv' := [(3, .int x_23), (1, .long x_22), (0, .ref a_d)]) hx hb dX1_size_23 hl (k := 2) rfl (by rw [ex_23]; rfl) (by decide) rfl (fun ls hl => ?_)
        refine lv_goto (tgt := 5) hx hb dX1_size_26 (by decide) ?_
        exact ih (x_22, x_23) (by subst ex_23; subst ex_22;  exact Nat.lt_of_lt_of_le (ms_dn c_6) (Nat.le_of_lt_succ hm9)) (by subst ex_23; subst ex_22;  exact le_dn hI9 c_6) (by rw [← hL9]; subst ex_23; subst ex_22; simp only [LX1_size_5, if_neg c_6]) _ _ hP hD hS ls (lv_sub hl [2, 1, 0] rfl)
  exact lp_5 (((14 : Int32).toInt + 1).toNat + 1) (0, 14) (Nat.lt_succ_self _) (by decide) eg_5.symm _ _ hP hD hS ls (lv_sub hl [2, 1, 0] rfl)
theorem hdX1_size : yX1_size.cls = RX1 ∧ yX1_size.cls ≠ "java/lang/invoke/MethodHandle" ∧ yX1_size.cls ≠ "java/lang/invoke/VarHandle" ∧ (parseMethodDescriptor yX1_size.desc).map (fun d => d.parameters.length) = some 0 := by decide +kernel
def LX1_isSmallerThan_4 (v_dF : (Nat → Int32)) (v_dF2 : (Nat → Int32)) : Nat → (Int32 × Int32) → (Int32 × Int32)
  | 0, w_4 => w_4
  | n9 + 1, w_4 =>
    if 32 ≤ w_4.2 then ((w_4.1, w_4.2)) else (let m_42 : Int32 := (if (v_dF (w_4.2 : Int32).toNatClampNeg) = (v_dF2 (w_4.2 : Int32).toNatClampNeg) then (w_4.1) else (((v_dF (w_4.2 : Int32).toNatClampNeg) - (v_dF2 (w_4.2 : Int32).toNatClampNeg)))); let x_43 := w_4.2 + 1; LX1_isSmallerThan_4 v_dF v_dF2 n9 (m_42, x_43))
def fX1_isSmallerThan (v_dF : (Nat → Int32)) (v_dF2 : (Nat → Int32)) : Int32 :=
  let g_4 := LX1_isSmallerThan_4 v_dF v_dF2 (((32 : Int32).toInt - (0 : Int32).toInt).toNat + 1) (0, 0)
  if 0 ≤ g_4.1 then (0) else (1)
theorem zX1_isSmallerThan (v_dF : (Nat → Int32)) (v_dF2 : (Nat → Int32)) : (fX1_isSmallerThan v_dF v_dF2) = 0 ∨ (fX1_isSmallerThan v_dF v_dF2) = 1 := by unfold fX1_isSmallerThan; (repeat' split) <;> first | exact Or.inl rfl | exact Or.inr rfl
abbrev wX1_isSmallerThan (cI cB : ClassId) (a_d a_dg a_d2 a_dg2 : Nat) (v_below : Int32) (v_dF : (Nat → Int32)) (v_below2 : Int32) (v_dF2 : (Nat → Int32)) : va_W := [(a_d, .inr (1, [.ref a_dg, .int v_below])), (a_dg, .inl (cI, 32, .inl v_dF)), (a_d2, .inr (1, [.ref a_dg2, .int v_below2])), (a_dg2, .inl (cI, 32, .inl v_dF2))]
abbrev rmX1_isSmallerThan : Room := { frames := 0, cells := 0, slots := 0, locals := 0 }
abbrev qX1_isSmallerThan (D : va_G) (cI cB : ClassId) (a_d a_dg a_d2 a_dg2 : Nat) (v_below : Int32) (v_dF : (Nat → Int32)) (v_below2 : Int32) (v_dF2 : (Nat → Int32)) : (Nat → Prop) → Array Value → State → Outcome → State → Prop := fun A9 => va_Qi (fun (r9 : Int32) (u9 : Unit) => r9 = fX1_isSmallerThan v_dF v_dF2) (fun u9 t9 => atW D (TYS cI cB) A9 (wX1_isSmallerThan cI cB a_d a_dg a_d2 a_dg2 v_below v_dF v_below2 v_dF2) t9) A9
set_option maxHeartbeats 4000000 in
set_option maxRecDepth 100000 in
theorem kX1_isSmallerThan (l : Launch) (D : va_G) (cI cB : ClassId) (a_d a_dg a_d2 a_dg2 : Nat) (sz : Nat) (v_below : Int32) (v_dF : (Nat → Int32)) (v_below2 : Int32) (v_dF2 : (Nat → Int32)) : MetW l yX1_isSmallerThan (WK yX1_isSmallerThan cX1_isSmallerThan 4 (some .boolean)) rmX1_isSmallerThan D (TYS cI cB) (wX1_isSmallerThan cI cB a_d a_dg a_d2 a_dg2 v_below v_dF v_below2 v_dF2) sz [.ref a_d, .ref a_d2] (qX1_isSmallerThan D cI cB a_d a_dg a_d2 a_dg2 v_below v_dF v_below2 v_dF2) 0 0 := by
  refine met_std (by decide) rfl (Nat.le_of_ble_eq_true rfl) ?_
  intro p e s m below meth c A ls H hx hb hr hml hown hts hlocks hA hP hK hD hS hNW hl
  have hl : lv_has ls 4 [(0, .ref a_d), (1, .ref a_d2)] := hl
  have q_0 := hts _ (List.mem_cons_of_mem _ wd_129)
  refine lv_iconst (v := 0) hx hb dX1_isSmallerThan_0 (by decide) ?_
  refine lv_istore_n (lv' := [(2, .int 0), (0, .ref a_d), (1, .ref a_d2)]) hx hb dX1_isSmallerThan_1 rfl hl (by decide) rfl (fun ls hl => ?_)
  refine lv_iconst (v := 0) hx hb dX1_isSmallerThan_2 (by decide) ?_
  refine lv_istore_n (lv' := [(3, .int 0), (2, .int 0), (0, .ref a_d), (1, .ref a_d2)]) hx hb dX1_isSmallerThan_3 rfl hl (by decide) rfl (fun ls hl => ?_)
  obtain ⟨g_4, eg_4⟩ : ∃ z : (Int32 × Int32), z = LX1_isSmallerThan_4 v_dF v_dF2 (((32 : Int32).toInt - (0 : Int32).toInt).toNat + 1) (0, 0) := ⟨_, rfl⟩
  have K_4_0 : ∀ (H : Heap) (locs : List Loc), va_P D vwCl (wX1_isSmallerThan cI cB a_d a_dg a_d2 a_dg2 v_below v_dF v_below2 v_dF2) H → va_D A (wX1_isSmallerThan cI cB a_d a_dg a_d2 a_dg2 v_below v_dF v_below2 v_dF2) → va_S A s.heap H locs → ∀ (ls : Array Slot), lv_has ls 4 [(0, .ref a_d), (1, .ref a_d2), (2, .int g_4.1), (3, .int g_4.2)] → W p l e rmX1_isSmallerThan s m ([.ref a_d, .ref a_d2] : List Value).toArray below meth c H locs 0 0 (MQ below (qX1_isSmallerThan D cI cB a_d a_dg a_d2 a_dg2 v_below v_dF v_below2 v_dF2 A) ([.ref a_d, .ref a_d2] : List Value).toArray s 0 0 A) (F0 m 49 ls []) := by
    intro H locs hP hD hS ls hl
    refine lv_iload_n hx hb dX1_isSmallerThan_49 rfl (lv_at hl 2 rfl) ?_
    refine lv_if_ge (tgt := 57) hx hb dX1_isSmallerThan_50 (by decide) (fun c_50 => ?_) (fun c_50 => ?_)
    · skip
      refine lv_iconst (v := 0) hx hb dX1_isSmallerThan_57 (by decide) ?_
      have hf9 : 0 = fX1_isSmallerThan v_dF v_dF2 := by subst eg_4; simp only [fX1_isSmallerThan, if_pos c_50]
      exact W.zret hx hb hr (by decide) (fun t9 ht9 hW9 => ⟨⟨0, (), rfl, hf9, ⟨by rw [ht9]; exact hP, va_K.moved hW9.alike hK, hD⟩⟩, hS.F ht9⟩) hS.2.2 dX1_isSmallerThan_58
    · skip
      refine lv_iconst (v := 1) hx hb dX1_isSmallerThan_53 (by decide) ?_
      refine lv_goto (tgt := 58) hx hb dX1_isSmallerThan_54 (by decide) ?_
      have hf9 : 1 = fX1_isSmallerThan v_dF v_dF2 := by subst eg_4; simp only [fX1_isSmallerThan, if_neg c_50]
      exact W.zret hx hb hr (by decide) (fun t9 ht9 hW9 => ⟨⟨1, (), rfl, hf9, ⟨by rw [ht9]; exact hP, va_K.moved hW9.alike hK, hD⟩⟩, hS.F ht9⟩) hS.2.2 dX1_isSmallerThan_58
  have lp_4 : ∀ (n9 : Nat) (w_4 : (Int32 × Int32)), ((32 : Int32).toInt - (w_4.2 : Int32).toInt).toNat < n9 → 0 ≤ w_4.2 → LX1_isSmallerThan_4 v_dF v_dF2 n9 w_4 = g_4 → ∀ (H : Heap) (locs : List Loc), va_P D vwCl (wX1_isSmallerThan cI cB a_d a_dg a_d2 a_dg2 v_below v_dF v_below2 v_dF2) H → va_D A (wX1_isSmallerThan cI cB a_d a_dg a_d2 a_dg2 v_below v_dF v_below2 v_dF2) → va_S A s.heap H locs → ∀ (ls : Array Slot), lv_has ls 4 [(0, .ref a_d), (1, .ref a_d2), (2, .int w_4.1), (3, .int w_4.2)] → W p l e rmX1_isSmallerThan s m ([.ref a_d, .ref a_d2] : List Value).toArray below meth c H locs 0 0 (MQ below (qX1_isSmallerThan D cI cB a_d a_dg a_d2 a_dg2 v_below v_dF v_below2 v_dF2 A) ([.ref a_d, .ref a_d2] : List Value).toArray s 0 0 A) (F0 m 4 ls []) := by
    intro n9
    induction n9 with
    | zero => intro w_4 hm9; exact absurd hm9 (Nat.not_lt_zero _)
    | succ n9 ih =>
      intro w_4 hm9 hI9 hL9 H locs hP hD hS ls hl
      refine lv_iload_n hx hb dX1_isSmallerThan_4 rfl (lv_at hl 3 rfl) ?_
      refine lv_bipush (v := 32) hx hb dX1_isSmallerThan_5 (by decide) ?_
      refine lv_icmp_ge (tgt := 49) hx hb dX1_isSmallerThan_7 (by decide) (fun c_7 => ?_) (fun c_7 => ?_)
      · skip
        have hg9 : (w_4.1, w_4.2) = g_4 := by rw [← hL9]; simp only [LX1_isSmallerThan_4, if_pos c_7]
        subst hg9
        exact K_4_0 _ _ hP hD hS ls (lv_sub hl [0, 1, 2, 3] rfl)
      · skip
        refine lv_aload_n hx hb dX1_isSmallerThan_10 rfl (lv_at hl 0 rfl) ?_
        refine va_get (D := D) (ci := 1) (v := .ref a_dg) (C := RX1) (T := TX1) (N := 2) hx hb hts in_X1 hown hK hP 0 rfl rfl 0 (by decide) q_0 (fun _ h9 => h9) rfl dX1_isSmallerThan_11 ?_
        refine lv_iload_n hx hb dX1_isSmallerThan_14 rfl (lv_at hl 3 rfl) ?_
        refine va_iald hx hb hK hP 1 0 rfl rfl (by first | assumption | exact vin_of (b := 32) (by decide) hI9 (by assumption) | exact vin_of (b := 32) (by decide) (by assumption) (by assumption) | exact vin_of (b := 32) (by decide) (Int32.not_lt.mp (by assumption)) (by assumption) | exact vin_dn (by decide) (by assumption) hI9) dX1_isSmallerThan_15 ?_
        refine lv_aload_n hx hb dX1_isSmallerThan_16 rfl (lv_at hl 1 rfl) ?_
        refine va_get (D := D) (ci := 1) (v := .ref a_dg2) (C := RX1) (T := TX1) (N := 2) hx hb hts in_X1 hown hK hP 2 rfl rfl 0 (by decide) q_0 (fun _ h9 => h9) rfl dX1_isSmallerThan_17 ?_
        refine lv_iload_n hx hb dX1_isSmallerThan_20 rfl (lv_at hl 3 rfl) ?_
        refine va_iald hx hb hK hP 3 0 rfl rfl (by first | assumption | exact vin_of (b := 32) (by decide) hI9 (by assumption) | exact vin_of (b := 32) (by decide) (by assumption) (by assumption) | exact vin_of (b := 32) (by decide) (Int32.not_lt.mp (by assumption)) (by assumption) | exact vin_dn (by decide) (by assumption) hI9) dX1_isSmallerThan_21 ?_
        have J_42 : ∀ (m_42 : Int32), m_42 = (if (v_dF (w_4.2 : Int32).toNatClampNeg) = (v_dF2 (w_4.2 : Int32).toNatClampNeg) then (w_4.1) else (((v_dF (w_4.2 : Int32).toNatClampNeg) - (v_dF2 (w_4.2 : Int32).toNatClampNeg)))) → ∀ (H : Heap) (locs : List Loc), va_P D vwCl (wX1_isSmallerThan cI cB a_d a_dg a_d2 a_dg2 v_below v_dF v_below2 v_dF2) H → va_D A (wX1_isSmallerThan cI cB a_d a_dg a_d2 a_dg2 v_below v_dF v_below2 v_dF2) → va_S A s.heap H locs → ∀ (ls : Array Slot), lv_has ls 4 [(0, .ref a_d), (1, .ref a_d2), (2, .int w_4.1), (3, .int w_4.2)] → W p l e rmX1_isSmallerThan s m ([.ref a_d, .ref a_d2] : List Value).toArray below meth c H locs 0 0 (MQ below (qX1_isSmallerThan D cI cB a_d a_dg a_d2 a_dg2 v_below v_dF v_below2 v_dF2 A) ([.ref a_d, .ref a_d2] : List Value).toArray s 0 0 A) (F0 m 42 ls [.int m_42]) := by
          intro m_42 em_42 H locs hP hD hS ls hl
          refine lv_istore_n (lv' := [(2, .int m_42), (0, .ref a_d), (1, .ref a_d2), (3, .int w_4.2)]) hx hb dX1_isSmallerThan_42 rfl hl (by decide) rfl (fun ls hl => ?_)
          obtain ⟨x_43, ex_43⟩ : ∃ z : Int32, z = w_4.2 + 1 := ⟨_, rfl⟩
          refine lv_iinc (v := x_43) (lv' := [(3, .int x_43), (2, .int m_42), (0, .ref a_d), (1, .ref a_d2)]) hx hb dX1_isSmallerThan_43 hl (k := 3) rfl (by rw [ex_43]; rfl) (by decide) rfl (fun ls hl => ?_)
          refine lv_goto (tgt := 4) hx hb dX1_isSmallerThan_46 (by decide) ?_
          exact ih (m_42, x_43) (by subst ex_43; subst em_42;  exact Nat.lt_of_lt_of_le (ms_up c_7) (Nat.le_of_lt_succ hm9)) (by subst ex_43; subst em_42;  exact nn_up hI9 c_7) (by rw [← hL9]; subst ex_43; subst em_42; simp only [LX1_isSmallerThan_4, if_neg c_7]) _ _ hP hD hS ls (lv_sub hl [2, 3, 1, 0] rfl)
        refine lv_icmp_ne (tgt := 29) hx hb dX1_isSmallerThan_22 (by decide) (fun c_22 => ?_) (fun c_22 => ?_)
        · skip
          refine lv_aload_n hx hb dX1_isSmallerThan_29 rfl (lv_at hl 0 rfl) ?_
          refine va_get (D := D) (ci := 1) (v := .ref a_dg) (C := RX1) (T := TX1) (N := 2) hx hb hts in_X1 hown hK hP 0 rfl rfl 0 (by decide) q_0 (fun _ h9 => h9) rfl dX1_isSmallerThan_30 ?_
          refine lv_iload_n hx hb dX1_isSmallerThan_33 rfl (lv_at hl 3 rfl) ?_
          refine va_iald hx hb hK hP 1 0 rfl rfl (by first | assumption | exact vin_of (b := 32) (by decide) hI9 (by assumption) | exact vin_of (b := 32) (by decide) (by assumption) (by assumption) | exact vin_of (b := 32) (by decide) (Int32.not_lt.mp (by assumption)) (by assumption) | exact vin_dn (by decide) (by assumption) hI9) dX1_isSmallerThan_34 ?_
          refine lv_aload_n hx hb dX1_isSmallerThan_35 rfl (lv_at hl 1 rfl) ?_
          refine va_get (D := D) (ci := 1) (v := .ref a_dg2) (C := RX1) (T := TX1) (N := 2) hx hb hts in_X1 hown hK hP 2 rfl rfl 0 (by decide) q_0 (fun _ h9 => h9) rfl dX1_isSmallerThan_36 ?_
          refine lv_iload_n hx hb dX1_isSmallerThan_39 rfl (lv_at hl 3 rfl) ?_
          refine va_iald hx hb hK hP 3 0 rfl rfl (by first | assumption | exact vin_of (b := 32) (by decide) hI9 (by assumption) | exact vin_of (b := 32) (by decide) (by assumption) (by assumption) | exact vin_of (b := 32) (by decide) (Int32.not_lt.mp (by assumption)) (by assumption) | exact vin_dn (by decide) (by assumption) hI9) dX1_isSmallerThan_40 ?_
          refine lv_isub hx hb dX1_isSmallerThan_41 ?_
          exact J_42 _ (by simp only [if_neg c_22]) _ _ hP hD hS ls (lv_sub hl [0, 1, 2, 3] rfl)
        · skip
          refine lv_iload_n hx hb dX1_isSmallerThan_25 rfl (lv_at hl 2 rfl) ?_
          refine lv_goto (tgt := 42) hx hb dX1_isSmallerThan_26 (by decide) ?_
          exact J_42 _ (by simp only [if_pos c_22]) _ _ hP hD hS ls (lv_sub hl [0, 1, 2, 3] rfl)
  exact lp_4 (((32 : Int32).toInt - (0 : Int32).toInt).toNat + 1) (0, 0) (Nat.lt_succ_self _) (by decide) eg_4.symm _ _ hP hD hS ls (lv_sub hl [2, 3, 1, 0] rfl)
theorem hdX1_isSmallerThan : yX1_isSmallerThan.cls = RX1 ∧ yX1_isSmallerThan.cls ≠ "java/lang/invoke/MethodHandle" ∧ yX1_isSmallerThan.cls ≠ "java/lang/invoke/VarHandle" ∧ (parseMethodDescriptor yX1_isSmallerThan.desc).map (fun d => d.parameters.length) = some 1 := by decide +kernel
def LX1_combine_6 (x0 : Int32) (x2 : Int32) (v_dF2 : (Nat → Int32)) : Nat → ((Nat → Int32) × Int32 × Int32) → ((Nat → Int32) × Int32 × Int32)
  | 0, w_6 => w_6
  | n9 + 1, w_6 =>
    if 32 ≤ w_6.2.2 then ((w_6.1, w_6.2.1, w_6.2.2)) else (let x_35 := (((x0 * (w_6.1 (w_6.2.2 : Int32).toNatClampNeg)) + (x2 * (v_dF2 (w_6.2.2 : Int32).toNatClampNeg))) + w_6.2.1); let r_47 := fJ9_floorMod_7cf53 x_35 10; let f_50 := upd w_6.1 (w_6.2.2 : Int32).toNatClampNeg (r_47); let r_55 := fJ9_floorDiv_7cf53 x_35 10; let x_60 := w_6.2.2 + 1; LX1_combine_6 x0 x2 v_dF2 n9 (f_50, r_55, x_60))
def fX1_combine (x0 : Int32) (x2 : Int32) (v_dF : (Nat → Int32)) (v_dF2 : (Nat → Int32)) : (Nat → Int32) :=
  let g_6 := LX1_combine_6 x0 x2 v_dF2 (((32 : Int32).toInt - (0 : Int32).toInt).toNat + 1) (v_dF, 0, 0)
  g_6.1
abbrev wX1_combine (cI cB : ClassId) (a_d a_dg a_d2 a_dg2 : Nat) (v_below : Int32) (v_dF : (Nat → Int32)) (v_below2 : Int32) (v_dF2 : (Nat → Int32)) : va_W := [(a_d, .inr (1, [.ref a_dg, .int v_below])), (a_dg, .inl (cI, 32, .inl v_dF)), (a_d2, .inr (1, [.ref a_dg2, .int v_below2])), (a_dg2, .inl (cI, 32, .inl v_dF2))]
abbrev rmX1_combine : Room := { frames := 1, cells := 0, slots := 0, locals := 22 }
abbrev qX1_combine (D : va_G) (cI cB : ClassId) (a_d a_dg a_d2 a_dg2 : Nat) (v_below : Int32) (v_dF : (Nat → Int32)) (v_below2 : Int32) (v_dF2 : (Nat → Int32)) (x0 : Int32) (x2 : Int32) : (Nat → Prop) → Array Value → State → Outcome → State → Prop := fun A9 => va_Qv (fun (u9 : (Nat → Int32)) => u9 = fX1_combine x0 x2 v_dF v_dF2) (fun u9 t9 => atW D (TYS cI cB) A9 (wX1_combine cI cB a_d a_dg a_d2 a_dg2 v_below u9 v_below2 v_dF2) t9) A9
set_option maxHeartbeats 4000000 in
set_option maxRecDepth 100000 in
theorem kX1_combine (l : Launch) (D : va_G) (cI cB : ClassId) (a_d a_dg a_d2 a_dg2 : Nat) (sz : Nat) (v_below : Int32) (v_dF : (Nat → Int32)) (v_below2 : Int32) (v_dF2 : (Nat → Int32)) (x0 : Int32) (x2 : Int32) : MetW l yX1_combine (WK yX1_combine cX1_combine 7 none) rmX1_combine D (TYS cI cB) (wX1_combine cI cB a_d a_dg a_d2 a_dg2 v_below v_dF v_below2 v_dF2) sz [.ref a_d, .int x0, .ref a_d2, .int x2] (qX1_combine D cI cB a_d a_dg a_d2 a_dg2 v_below v_dF v_below2 v_dF2 x0 x2) 0 0 := by
  refine met_std (by decide) rfl (Nat.le_of_ble_eq_true rfl) ?_
  intro p e s m below meth c A ls H hx hb hr hml hown hts hlocks hA hP hK hD hS hNW hl
  have hl : lv_has ls 7 [(0, .ref a_d), (1, .int x0), (2, .ref a_d2), (3, .int x2)] := hl
  have q_0 := hts _ (List.mem_cons_of_mem _ wd_129)
  refine lv_iconst (v := 0) hx hb dX1_combine_0 (by decide) ?_
  refine lv_istore (lv' := [(4, .int 0), (0, .ref a_d), (1, .int x0), (2, .ref a_d2), (3, .int x2)]) hx hb dX1_combine_1 hl (by decide) rfl (fun ls hl => ?_)
  refine lv_iconst (v := 0) hx hb dX1_combine_3 (by decide) ?_
  refine lv_istore (lv' := [(5, .int 0), (4, .int 0), (0, .ref a_d), (1, .int x0), (2, .ref a_d2), (3, .int x2)]) hx hb dX1_combine_4 hl (by decide) rfl (fun ls hl => ?_)
  obtain ⟨g_6, eg_6⟩ : ∃ z : ((Nat → Int32) × Int32 × Int32), z = LX1_combine_6 x0 x2 v_dF2 (((32 : Int32).toInt - (0 : Int32).toInt).toNat + 1) (v_dF, 0, 0) := ⟨_, rfl⟩
  have K_6_0 : ∀ (H : Heap) (locs : List Loc), va_P D vwCl (wX1_combine cI cB a_d a_dg a_d2 a_dg2 v_below g_6.1 v_below2 v_dF2) H → va_D A (wX1_combine cI cB a_d a_dg a_d2 a_dg2 v_below g_6.1 v_below2 v_dF2) → va_S A s.heap H locs → ∀ (ls : Array Slot), lv_has ls 7 [(0, .ref a_d), (1, .int x0), (2, .ref a_d2), (3, .int x2), (4, .int g_6.2.1), (5, .int g_6.2.2)] → W p l e rmX1_combine s m ([.ref a_d, .int x0, .ref a_d2, .int x2] : List Value).toArray below meth c H locs 0 0 (MQ below (qX1_combine D cI cB a_d a_dg a_d2 a_dg2 v_below v_dF v_below2 v_dF2 x0 x2 A) ([.ref a_d, .int x0, .ref a_d2, .int x2] : List Value).toArray s 0 0 A) (F0 m 66 ls []) := by
    intro H locs hP hD hS ls hl
    have hf9 : g_6.1 = fX1_combine x0 x2 v_dF v_dF2 := by subst eg_6; simp only [fX1_combine]
    exact W.vret hx hb hr (fun t9 ht9 hW9 => ⟨⟨g_6.1, rfl, hf9, ⟨by rw [ht9]; exact hP, va_K.moved hW9.alike hK, hD⟩⟩, hS.F ht9⟩) hS.2.2 dX1_combine_66
  have lp_6 : ∀ (n9 : Nat) (w_6 : ((Nat → Int32) × Int32 × Int32)), ((32 : Int32).toInt - (w_6.2.2 : Int32).toInt).toNat < n9 → 0 ≤ w_6.2.2 → LX1_combine_6 x0 x2 v_dF2 n9 w_6 = g_6 → ∀ (H : Heap) (locs : List Loc), va_P D vwCl (wX1_combine cI cB a_d a_dg a_d2 a_dg2 v_below w_6.1 v_below2 v_dF2) H → va_D A (wX1_combine cI cB a_d a_dg a_d2 a_dg2 v_below w_6.1 v_below2 v_dF2) → va_S A s.heap H locs → ∀ (ls : Array Slot), lv_has ls 7 [(0, .ref a_d), (1, .int x0), (2, .ref a_d2), (3, .int x2), (4, .int w_6.2.1), (5, .int w_6.2.2)] → W p l e rmX1_combine s m ([.ref a_d, .int x0, .ref a_d2, .int x2] : List Value).toArray below meth c H locs 0 0 (MQ below (qX1_combine D cI cB a_d a_dg a_d2 a_dg2 v_below v_dF v_below2 v_dF2 x0 x2 A) ([.ref a_d, .int x0, .ref a_d2, .int x2] : List Value).toArray s 0 0 A) (F0 m 6 ls []) := by
    intro n9
    induction n9 with
    | zero => intro w_6 hm9; exact absurd hm9 (Nat.not_lt_zero _)
    | succ n9 ih =>
      intro w_6 hm9 hI9 hL9 H locs hP hD hS ls hl
      refine lv_iload hx hb dX1_combine_6 (lv_at hl 5 rfl) ?_
      refine lv_bipush (v := 32) hx hb dX1_combine_8 (by decide) ?_
      refine lv_icmp_ge (tgt := 66) hx hb dX1_combine_10 (by decide) (fun c_10 => ?_) (fun c_10 => ?_)
      · skip
        have hg9 : (w_6.1, w_6.2.1, w_6.2.2) = g_6 := by rw [← hL9]; simp only [LX1_combine_6, if_pos c_10]
        subst hg9
        exact K_6_0 _ _ hP hD hS ls (lv_sub hl [0, 1, 2, 3, 4, 5] rfl)
      · skip
        refine lv_iload_n hx hb dX1_combine_13 rfl (lv_at hl 1 rfl) ?_
        refine lv_aload_n hx hb dX1_combine_14 rfl (lv_at hl 0 rfl) ?_
        refine va_get (D := D) (ci := 1) (v := .ref a_dg) (C := RX1) (T := TX1) (N := 2) hx hb hts in_X1 hown hK hP 0 rfl rfl 0 (by decide) q_0 (fun _ h9 => h9) rfl dX1_combine_15 ?_
        refine lv_iload hx hb dX1_combine_18 (lv_at hl 5 rfl) ?_
        refine va_iald hx hb hK hP 1 0 rfl rfl (by first | assumption | exact vin_of (b := 32) (by decide) hI9 (by assumption) | exact vin_of (b := 32) (by decide) (by assumption) (by assumption) | exact vin_of (b := 32) (by decide) (Int32.not_lt.mp (by assumption)) (by assumption) | exact vin_dn (by decide) (by assumption) hI9) dX1_combine_20 ?_
        refine lv_imul hx hb dX1_combine_21 ?_
        refine lv_iload_n hx hb dX1_combine_22 rfl (lv_at hl 3 rfl) ?_
        refine lv_aload_n hx hb dX1_combine_23 rfl (lv_at hl 2 rfl) ?_
        refine va_get (D := D) (ci := 1) (v := .ref a_dg2) (C := RX1) (T := TX1) (N := 2) hx hb hts in_X1 hown hK hP 2 rfl rfl 0 (by decide) q_0 (fun _ h9 => h9) rfl dX1_combine_24 ?_
        refine lv_iload hx hb dX1_combine_27 (lv_at hl 5 rfl) ?_
        refine va_iald hx hb hK hP 3 0 rfl rfl (by first | assumption | exact vin_of (b := 32) (by decide) hI9 (by assumption) | exact vin_of (b := 32) (by decide) (by assumption) (by assumption) | exact vin_of (b := 32) (by decide) (Int32.not_lt.mp (by assumption)) (by assumption) | exact vin_dn (by decide) (by assumption) hI9) dX1_combine_29 ?_
        refine lv_imul hx hb dX1_combine_30 ?_
        refine lv_iadd hx hb dX1_combine_31 ?_
        refine lv_iload hx hb dX1_combine_32 (lv_at hl 4 rfl) ?_
        refine lv_iadd hx hb dX1_combine_34 ?_
        refine lv_topi (fun x_35 ex_35 => ?_)
        refine lv_istore (lv' := [(6, .int x_35), (0, .ref a_d), (1, .int x0), (2, .ref a_d2), (3, .int x2), (4, .int w_6.2.1), (5, .int w_6.2.2)]) hx hb dX1_combine_35 hl (by decide) rfl (fun ls hl => ?_)
        refine lv_aload_n hx hb dX1_combine_37 rfl (lv_at hl 1 rfl) ?_
        refine va_get (D := D) (ci := 1) (v := .ref a_dg) (C := RX1) (T := TX1) (N := 2) hx hb hts in_X1 hown hK hP 0 rfl rfl 0 (by decide) q_0 (fun _ h9 => h9) rfl dX1_combine_38 ?_
        refine lv_iload hx hb dX1_combine_41 (lv_at hl 6 rfl) ?_
        refine lv_iload hx hb dX1_combine_43 (lv_at hl 0 rfl) ?_
        refine lv_bipush (v := 10) hx hb dX1_combine_45 (by decide) ?_
        have hPc : va_P D vwCl (wJ9_floorMod_7cf53 cI cB  ) H := hP.sub [] rfl
        have hDc : va_D A (wJ9_floorMod_7cf53 cI cB  ) := hD.sub [] (by decide) rfl
        have hFc := va_free (wc := (wJ9_floorMod_7cf53 cI cB  )) hD hS hA [] rfl
        refine va_calli (va_runS (As := [.int x_35, .int 10]) (rest := [.int w_6.2.2, .ref a_dg]) ⟨hx, hb, hml, hown, hts⟩ (kJ9_floorMod_7cf53 l D cI cB  H.size  x_35 10) (va_cwS 2 hts (gd_S wd_171 wd_172 wd_173 wd_168) rfl rfl rfl hdJ9_floorMod_7cf53.2 ⟨Nat.le_of_ble_eq_true rfl, Nat.le_of_ble_eq_true rfl⟩) (preS_std hPc hK hDc hNW) rfl rfl hl.1 rfl (lv_room (Nat.le_of_ble_eq_true rfl)) dX1_combine_47 ⟨Nat.zero_le _, Nat.zero_le _⟩) hS (fun q _ h => hFc q h) hFc (fun r_47 u_47 t9 H1 locs ht9 hvm9 hw9 hB9 hz9 hk9 hS => ?_)
        have er_47 : r_47 = fJ9_floorMod_7cf53 x_35 10 := hw9
        obtain ⟨hP, hD⟩ := back_std (w1 := (wJ9_floorMod_7cf53 cI cB  )) (w2 := (wX1_combine cI cB a_d a_dg a_d2 a_dg2 v_below w_6.1 v_below2 v_dF2)) (wr := [(a_d, .inr (1, [.ref a_dg, .int v_below])), (a_dg, .inl (cI, 32, .inl w_6.1)), (a_d2, .inr (1, [.ref a_dg2, .int v_below2])), (a_dg2, .inl (cI, 32, .inl v_dF2))]) hP hD [] [0, 1, 2, 3] [0, 1, 2, 3] rfl rfl (by decide) (by decide) hk9 hFc hB9 ht9 (by decide) rfl
        clear hB9 hk9 hz9 hvm9 ht9 hFc hPc hDc
        generalize H1 = H at hP hS ⊢
        refine va_iast hx hb hK hP hD hS 1 0 rfl rfl (by first | assumption | exact vin_of (b := 32) (by decide) hI9 (by assumption) | exact vin_of (b := 32) (by decide) (by assumption) (by assumption) | exact vin_of (b := 32) (by decide) (Int32.not_lt.mp (by assumption)) (by assumption) | exact vin_dn (by decide) (by assumption) hI9) dX1_combine_50 (fun H locs hP hD hS => ?_)
        obtain ⟨f_50, ef_50⟩ : ∃ z : Nat → Int32, z = upd w_6.1 (w_6.2.2 : Int32).toNatClampNeg (r_47) := ⟨_, rfl⟩
        have hP : va_P D vwCl (wX1_combine cI cB a_d a_dg a_d2 a_dg2 v_below (upd w_6.1 (w_6.2.2 : Int32).toNatClampNeg (r_47)) v_below2 v_dF2) H := hP
        have hD : va_D A (wX1_combine cI cB a_d a_dg a_d2 a_dg2 v_below (upd w_6.1 (w_6.2.2 : Int32).toNatClampNeg (r_47)) v_below2 v_dF2) := hD
        rw [← ef_50] at hP hD
        refine lv_iload hx hb dX1_combine_51 (lv_at hl 0 rfl) ?_
        refine lv_bipush (v := 10) hx hb dX1_combine_53 (by decide) ?_
        have hPc : va_P D vwCl (wJ9_floorDiv_7cf53 cI cB  ) H := hP.sub [] rfl
        have hDc : va_D A (wJ9_floorDiv_7cf53 cI cB  ) := hD.sub [] (by decide) rfl
        have hFc := va_free (wc := (wJ9_floorDiv_7cf53 cI cB  )) hD hS hA [] rfl
        refine va_calli (va_runS (As := [.int x_35, .int 10]) (rest := []) ⟨hx, hb, hml, hown, hts⟩ (kJ9_floorDiv_7cf53 l D cI cB  H.size  x_35 10) (va_cwS 2 hts (gd_S wd_174 wd_175 wd_173 wd_169) rfl rfl rfl hdJ9_floorDiv_7cf53.2 ⟨Nat.le_of_ble_eq_true rfl, Nat.le_of_ble_eq_true rfl⟩) (preS_std hPc hK hDc hNW) rfl rfl hl.1 rfl (lv_room (Nat.le_of_ble_eq_true rfl)) dX1_combine_55 ⟨Nat.zero_le _, Nat.zero_le _⟩) hS (fun q _ h => hFc q h) hFc (fun r_55 u_55 t9 H1 locs ht9 hvm9 hw9 hB9 hz9 hk9 hS => ?_)
        have er_55 : r_55 = fJ9_floorDiv_7cf53 x_35 10 := hw9
        obtain ⟨hP, hD⟩ := back_std (w1 := (wJ9_floorDiv_7cf53 cI cB  )) (w2 := (wX1_combine cI cB a_d a_dg a_d2 a_dg2 v_below f_50 v_below2 v_dF2)) (wr := [(a_d, .inr (1, [.ref a_dg, .int v_below])), (a_dg, .inl (cI, 32, .inl f_50)), (a_d2, .inr (1, [.ref a_dg2, .int v_below2])), (a_dg2, .inl (cI, 32, .inl v_dF2))]) hP hD [] [0, 1, 2, 3] [0, 1, 2, 3] rfl rfl (by decide) (by decide) hk9 hFc hB9 ht9 (by decide) rfl
        clear hB9 hk9 hz9 hvm9 ht9 hFc hPc hDc
        generalize H1 = H at hP hS ⊢
        refine lv_istore (lv' := [(4, .int r_55), (6, .int x_35), (0, .ref a_d), (1, .int x0), (2, .ref a_d2), (3, .int x2), (5, .int w_6.2.2)]) hx hb dX1_combine_58 hl (by decide) rfl (fun ls hl => ?_)
        obtain ⟨x_60, ex_60⟩ : ∃ z : Int32, z = w_6.2.2 + 1 := ⟨_, rfl⟩
        refine lv_iinc (v := x_60) (lv' := [(5, .int x_60), (4, .int r_55), (6, .int x_35), (0, .ref a_d), (1, .int x0), (2, .ref a_d2), (3, .int x2)]) hx hb dX1_combine_60 hl (k := 6) rfl (by rw [ex_60]; rfl) (by decide) rfl (fun ls hl => ?_)
        refine lv_goto (tgt := 6) hx hb dX1_combine_63 (by decide) ?_
        exact ih (f_50, r_55, x_60) (by subst ex_60; subst er_55; subst ef_50; subst er_47; subst ex_35;  exact Nat.lt_of_lt_of_le (ms_up c_10) (Nat.le_of_lt_succ hm9)) (by subst ex_60; subst er_55; subst ef_50; subst er_47; subst ex_35;  exact nn_up hI9 c_10) (by rw [← hL9]; subst ex_60; subst er_55; subst ef_50; subst er_47; subst ex_35; simp only [LX1_combine_6, if_neg c_10]) _ _ hP hD hS ls (lv_sub hl [3, 4, 5, 6, 1, 0] rfl)
  exact lp_6 (((32 : Int32).toInt - (0 : Int32).toInt).toNat + 1) (v_dF, 0, 0) (Nat.lt_succ_self _) (by decide) eg_6.symm _ _ hP hD hS ls (lv_sub hl [2, 3, 4, 5, 1, 0] rfl)
theorem hdX1_combine : yX1_combine.cls = RX1 ∧ yX1_combine.cls ≠ "java/lang/invoke/MethodHandle" ∧ yX1_combine.cls ≠ "java/lang/invoke/VarHandle" ∧ (parseMethodDescriptor yX1_combine.desc).map (fun d => d.parameters.length) = some 3 := by decide +kernel
def fX1_add (v_below : Int32) (v_dF : (Nat → Int32)) (v_below2 : Int32) (v_dF2 : (Nat → Int32)) : (Int32 × (Nat → Int32)) :=
  let m_54 : (Int32 × (Nat → Int32)) := (if v_below = v_below2 then (let u_15 := fX1_combine 1 1 v_dF v_dF2; (v_below, u_15)) else (let r_23 := fX1_isSmallerThan v_dF v_dF2; if r_23 = 0 then (let u_51 := fX1_combine 1 (-1) v_dF v_dF2; (v_below, u_51)) else (let u_33 := fX1_combine (-1) 1 v_dF v_dF2; (v_below2, u_33))))
  let m_75 : Int32 := (if m_54.1 = 0 then (0) else (let r_64 := fX1_isLongerThan 0 m_54.2; if r_64 = 0 then (0) else (1)))
  (m_75, m_54.2)
abbrev wX1_add (cI cB : ClassId) (a_d a_dg a_d2 a_dg2 : Nat) (v_below : Int32) (v_dF : (Nat → Int32)) (v_below2 : Int32) (v_dF2 : (Nat → Int32)) : va_W := [(a_d, .inr (1, [.ref a_dg, .int v_below])), (a_dg, .inl (cI, 32, .inl v_dF)), (a_d2, .inr (1, [.ref a_dg2, .int v_below2])), (a_dg2, .inl (cI, 32, .inl v_dF2))]
abbrev rmX1_add : Room := { frames := 2, cells := 0, slots := 0, locals := 48 }
abbrev qX1_add (D : va_G) (cI cB : ClassId) (a_d a_dg a_d2 a_dg2 : Nat) (v_below : Int32) (v_dF : (Nat → Int32)) (v_below2 : Int32) (v_dF2 : (Nat → Int32)) : (Nat → Prop) → Array Value → State → Outcome → State → Prop := fun A9 => va_Qv (fun (u9 : (Int32 × (Nat → Int32))) => u9 = fX1_add v_below v_dF v_below2 v_dF2) (fun u9 t9 => atW D (TYS cI cB) A9 (wX1_add cI cB a_d a_dg a_d2 a_dg2 u9.1 u9.2 v_below2 v_dF2) t9) A9
set_option maxHeartbeats 4000000 in
set_option maxRecDepth 100000 in
theorem kX1_add (l : Launch) (D : va_G) (cI cB : ClassId) (a_d a_dg a_d2 a_dg2 : Nat) (sz : Nat) (v_below : Int32) (v_dF : (Nat → Int32)) (v_below2 : Int32) (v_dF2 : (Nat → Int32)) : MetW l yX1_add (WK yX1_add cX1_add 2 none) rmX1_add D (TYS cI cB) (wX1_add cI cB a_d a_dg a_d2 a_dg2 v_below v_dF v_below2 v_dF2) sz [.ref a_d, .ref a_d2] (qX1_add D cI cB a_d a_dg a_d2 a_dg2 v_below v_dF v_below2 v_dF2) 0 0 := by
  refine met_std (by decide) rfl (Nat.le_of_ble_eq_true rfl) ?_
  intro p e s m below meth c A ls H hx hb hr hml hown hts hlocks hA hP hK hD hS hNW hl
  have hl : lv_has ls 2 [(0, .ref a_d), (1, .ref a_d2)] := hl
  have q_0 := hts _ (List.mem_cons_of_mem _ wd_134)
  refine lv_aload_n hx hb dX1_add_0 rfl (lv_at hl 0 rfl) ?_
  refine va_get (D := D) (ci := 1) (v := .int v_below) (C := RX1) (T := TX1) (N := 2) hx hb hts in_X1 hown hK hP 0 rfl rfl 1 (by decide) q_0 (fun _ h9 => h9) rfl dX1_add_1 ?_
  refine lv_aload_n hx hb dX1_add_4 rfl (lv_at hl 1 rfl) ?_
  refine va_get (D := D) (ci := 1) (v := .int v_below2) (C := RX1) (T := TX1) (N := 2) hx hb hts in_X1 hown hK hP 2 rfl rfl 1 (by decide) q_0 (fun _ h9 => h9) rfl dX1_add_5 ?_
  have J_54 : ∀ (m_54 : (Int32 × (Nat → Int32))), m_54 = (if v_below = v_below2 then (let u_15 := fX1_combine 1 1 v_dF v_dF2; (v_below, u_15)) else (let r_23 := fX1_isSmallerThan v_dF v_dF2; if r_23 = 0 then (let u_51 := fX1_combine 1 (-1) v_dF v_dF2; (v_below, u_51)) else (let u_33 := fX1_combine (-1) 1 v_dF v_dF2; (v_below2, u_33)))) → ∀ (H : Heap) (locs : List Loc), va_P D vwCl (wX1_add cI cB a_d a_dg a_d2 a_dg2 m_54.1 m_54.2 v_below2 v_dF2) H → va_D A (wX1_add cI cB a_d a_dg a_d2 a_dg2 m_54.1 m_54.2 v_below2 v_dF2) → va_S A s.heap H locs → ∀ (ls : Array Slot), lv_has ls 2 [(0, .ref a_d), (1, .ref a_d2)] → W p l e rmX1_add s m ([.ref a_d, .ref a_d2] : List Value).toArray below meth c H locs 0 0 (MQ below (qX1_add D cI cB a_d a_dg a_d2 a_dg2 v_below v_dF v_below2 v_dF2 A) ([.ref a_d, .ref a_d2] : List Value).toArray s 0 0 A) (F0 m 54 ls []) := by
    intro m_54 em_54 H locs hP hD hS ls hl
    refine lv_aload_n hx hb dX1_add_54 rfl (lv_at hl 0 rfl) ?_
    refine lv_aload_n hx hb dX1_add_55 rfl (lv_at hl 0 rfl) ?_
    refine va_get (D := D) (ci := 1) (v := .int m_54.1) (C := RX1) (T := TX1) (N := 2) hx hb hts in_X1 hown hK hP 0 rfl rfl 1 (by decide) q_0 (fun _ h9 => h9) rfl dX1_add_56 ?_
    have J_75 : ∀ (m_75 : Int32), m_75 = (if m_54.1 = 0 then (0) else (let r_64 := fX1_isLongerThan 0 m_54.2; if r_64 = 0 then (0) else (1))) → ∀ (H : Heap) (locs : List Loc), va_P D vwCl (wX1_add cI cB a_d a_dg a_d2 a_dg2 m_54.1 m_54.2 v_below2 v_dF2) H → va_D A (wX1_add cI cB a_d a_dg a_d2 a_dg2 m_54.1 m_54.2 v_below2 v_dF2) → va_S A s.heap H locs → ∀ (ls : Array Slot), lv_has ls 2 [(0, .ref a_d), (1, .ref a_d2)] → W p l e rmX1_add s m ([.ref a_d, .ref a_d2] : List Value).toArray below meth c H locs 0 0 (MQ below (qX1_add D cI cB a_d a_dg a_d2 a_dg2 v_below v_dF v_below2 v_dF2 A) ([.ref a_d, .ref a_d2] : List Value).toArray s 0 0 A) (F0 m 75 ls [.int m_75, .ref a_d]) := by
      intro m_75 em_75 H locs hP hD hS ls hl
      have zm_75_0 : m_75 = 0 ∨ m_75 = 1 := by rw [em_75]; (repeat' split) <;> first | exact Or.inl rfl | exact Or.inr rfl
      refine va_put (D := D) (ci := 1) (v := .int m_75) (ty := .boolean) (C := RX1) (T := TX1) (N := 2) hx hb hts in_X1 tyX1 tyX1_ok nmX1 hown hK hP hD hS 0 rfl rfl 1 (by decide) q_0 (fun _ h9 => h9) rfl (by decide +kernel) (zb_narrow (by assumption)) (zb_fits (by assumption)) (Nat.le_of_ble_eq_true rfl) dX1_add_75 (fun H locs hP hD hS => ?_)
      have hP : va_P D vwCl (wX1_add cI cB a_d a_dg a_d2 a_dg2 m_75 m_54.2 v_below2 v_dF2) H := hP
      have hD : va_D A (wX1_add cI cB a_d a_dg a_d2 a_dg2 m_75 m_54.2 v_below2 v_dF2) := hD
      have hf9 : (m_75, m_54.2) = fX1_add v_below v_dF v_below2 v_dF2 := by subst em_75; subst em_54; simp only [fX1_add]
      exact W.vret hx hb hr (fun t9 ht9 hW9 => ⟨⟨(m_75, m_54.2), rfl, hf9, ⟨by rw [ht9]; exact hP, va_K.moved hW9.alike hK, hD⟩⟩, hS.F ht9⟩) hS.2.2 dX1_add_78
    refine lv_if_eq (tgt := 74) hx hb dX1_add_59 (by decide) (fun c_59 => ?_) (fun c_59 => ?_)
    · skip
      refine lv_iconst (v := 0) hx hb dX1_add_74 (by decide) ?_
      exact J_75 _ (by simp only [if_pos c_59]) _ _ hP hD hS ls (lv_sub hl [0, 1] rfl)
    · skip
      refine lv_aload_n hx hb dX1_add_62 rfl (lv_at hl 0 rfl) ?_
      refine lv_iconst (v := 0) hx hb dX1_add_63 (by decide) ?_
      have hPc : va_P D vwCl (wX1_isLongerThan cI cB a_d a_dg m_54.1 m_54.2) H := hP.sub [0, 1] rfl
      have hDc : va_D A (wX1_isLongerThan cI cB a_d a_dg m_54.1 m_54.2) := hD.sub [0, 1] (by decide) rfl
      have hFc := va_free (wc := (wX1_isLongerThan cI cB a_d a_dg m_54.1 m_54.2)) hD hS hA [0, 1] rfl
      refine va_calli (va_runV (As := [.int 0]) (rest := [.ref a_d]) ⟨hx, hb, hml, hown, hts⟩ (kX1_isLongerThan l D cI cB a_d a_dg H.size m_54.1 m_54.2 0) (cwV 1 hts (gd_V wd_159 wd_160 wd_161 wd_138 wd_153) rfl rfl rfl hdX1_isLongerThan ⟨Nat.le_of_ble_eq_true rfl, Nat.le_of_ble_eq_true rfl⟩) (preV_std (ci := 1) (q0 := 0) hPc hK hDc hNW rfl rfl) rfl rfl hl.1 rfl (lv_room (Nat.le_of_ble_eq_true rfl)) dX1_add_64 ⟨Nat.zero_le _, Nat.zero_le _⟩) hS (fun q _ h => hFc q h) hFc (fun r_64 u_64 t9 H1 locs ht9 hvm9 hw9 hB9 hz9 hk9 hS => ?_)
      have er_64 : r_64 = fX1_isLongerThan 0 m_54.2 := hw9
      have zr_64 : r_64 = 0 ∨ r_64 = 1 := by rw [er_64]; exact zX1_isLongerThan _ _
      obtain ⟨hP, hD⟩ := back_std (w1 := (wX1_isLongerThan cI cB a_d a_dg m_54.1 m_54.2)) (w2 := (wX1_add cI cB a_d a_dg a_d2 a_dg2 m_54.1 m_54.2 v_below2 v_dF2)) (wr := [(a_d2, .inr (1, [.ref a_dg2, .int v_below2])), (a_dg2, .inl (cI, 32, .inl v_dF2))]) hP hD [0, 1] [2, 3] [2, 3, 0, 1] rfl rfl (by decide) (by decide) hk9 hFc hB9 ht9 (by decide) rfl
      clear hB9 hk9 hz9 hvm9 ht9 hFc hPc hDc
      generalize H1 = H at hP hS ⊢
      refine lv_if_eq (tgt := 74) hx hb dX1_add_67 (by decide) (fun c_67 => ?_) (fun c_67 => ?_)
      · skip
        refine lv_iconst (v := 0) hx hb dX1_add_74 (by decide) ?_
        exact J_75 _ (by subst er_64; simp only [if_neg c_59, if_pos c_67]) _ _ hP hD hS ls (lv_sub hl [0, 1] rfl)
      · skip
        refine lv_iconst (v := 1) hx hb dX1_add_70 (by decide) ?_
        refine lv_goto (tgt := 75) hx hb dX1_add_71 (by decide) ?_
        exact J_75 _ (by subst er_64; simp only [if_neg c_59, if_neg c_67]) _ _ hP hD hS ls (lv_sub hl [0, 1] rfl)
  refine lv_icmp_ne (tgt := 21) hx hb dX1_add_8 (by decide) (fun c_8 => ?_) (fun c_8 => ?_)
  · skip
    refine lv_aload_n hx hb dX1_add_21 rfl (lv_at hl 0 rfl) ?_
    refine lv_aload_n hx hb dX1_add_22 rfl (lv_at hl 1 rfl) ?_
    have hPc : va_P D vwCl (wX1_isSmallerThan cI cB a_d a_dg a_d2 a_dg2 v_below v_dF v_below2 v_dF2) H := hP.sub [0, 1, 2, 3] rfl
    have hDc : va_D A (wX1_isSmallerThan cI cB a_d a_dg a_d2 a_dg2 v_below v_dF v_below2 v_dF2) := hD.sub [0, 1, 2, 3] (by decide) rfl
    have hFc := va_free (wc := (wX1_isSmallerThan cI cB a_d a_dg a_d2 a_dg2 v_below v_dF v_below2 v_dF2)) hD hS hA [0, 1, 2, 3] rfl
    refine va_calli (va_runV (As := [.ref a_d2]) (rest := []) ⟨hx, hb, hml, hown, hts⟩ (kX1_isSmallerThan l D cI cB a_d a_dg a_d2 a_dg2 H.size v_below v_dF v_below2 v_dF2 ) (cwV 1 hts (gd_V wd_180 wd_181 wd_182 wd_138 wd_176) rfl rfl rfl hdX1_isSmallerThan ⟨Nat.le_of_ble_eq_true rfl, Nat.le_of_ble_eq_true rfl⟩) (preV_std (ci := 1) (q0 := 0) hPc hK hDc hNW rfl rfl) rfl rfl hl.1 rfl (lv_room (Nat.le_of_ble_eq_true rfl)) dX1_add_23 ⟨Nat.zero_le _, Nat.zero_le _⟩) hS (fun q _ h => hFc q h) hFc (fun r_23 u_23 t9 H1 locs ht9 hvm9 hw9 hB9 hz9 hk9 hS => ?_)
    have er_23 : r_23 = fX1_isSmallerThan v_dF v_dF2 := hw9
    have zr_23 : r_23 = 0 ∨ r_23 = 1 := by rw [er_23]; exact zX1_isSmallerThan _ _
    obtain ⟨hP, hD⟩ := back_std (w1 := (wX1_isSmallerThan cI cB a_d a_dg a_d2 a_dg2 v_below v_dF v_below2 v_dF2)) (w2 := (wX1_add cI cB a_d a_dg a_d2 a_dg2 v_below v_dF v_below2 v_dF2)) (wr := []) hP hD [0, 1, 2, 3] [] [0, 1, 2, 3] rfl rfl (by decide) (by decide) hk9 hFc hB9 ht9 (by decide) rfl
    clear hB9 hk9 hz9 hvm9 ht9 hFc hPc hDc
    generalize H1 = H at hP hS ⊢
    refine lv_if_eq (tgt := 47) hx hb dX1_add_26 (by decide) (fun c_26 => ?_) (fun c_26 => ?_)
    · skip
      refine lv_aload_n hx hb dX1_add_47 rfl (lv_at hl 0 rfl) ?_
      refine lv_iconst (v := 1) hx hb dX1_add_48 (by decide) ?_
      refine lv_aload_n hx hb dX1_add_49 rfl (lv_at hl 1 rfl) ?_
      refine lv_iconst (v := (-1)) hx hb dX1_add_50 (by decide) ?_
      have hPc : va_P D vwCl (wX1_combine cI cB a_d a_dg a_d2 a_dg2 v_below v_dF v_below2 v_dF2) H := hP.sub [0, 1, 2, 3] rfl
      have hDc : va_D A (wX1_combine cI cB a_d a_dg a_d2 a_dg2 v_below v_dF v_below2 v_dF2) := hD.sub [0, 1, 2, 3] (by decide) rfl
      have hFc := va_free (wc := (wX1_combine cI cB a_d a_dg a_d2 a_dg2 v_below v_dF v_below2 v_dF2)) hD hS hA [0, 1, 2, 3] rfl
      refine va_callv (va_runV (As := [.int 1, .ref a_d2, .int (-1)]) (rest := []) ⟨hx, hb, hml, hown, hts⟩ (kX1_combine l D cI cB a_d a_dg a_d2 a_dg2 H.size v_below v_dF v_below2 v_dF2 1 (-1)) (cwV 3 hts (gd_V wd_177 wd_178 wd_179 wd_138 wd_170) rfl rfl rfl hdX1_combine ⟨Nat.le_of_ble_eq_true rfl, Nat.le_of_ble_eq_true rfl⟩) (preV_std (ci := 1) (q0 := 0) hPc hK hDc hNW rfl rfl) rfl rfl hl.1 rfl (lv_room (Nat.le_of_ble_eq_true rfl)) dX1_add_51 ⟨Nat.zero_le _, Nat.zero_le _⟩) hS (fun q _ h => hFc q h) hFc (fun u_51 t9 H1 locs ht9 hvm9 hw9 hB9 hz9 hk9 hS => ?_)
      have eu_51 : u_51 = fX1_combine 1 (-1) v_dF v_dF2 := hw9
      obtain ⟨hP, hD⟩ := back_std (w1 := (wX1_combine cI cB a_d a_dg a_d2 a_dg2 v_below u_51 v_below2 v_dF2)) (w2 := (wX1_add cI cB a_d a_dg a_d2 a_dg2 v_below u_51 v_below2 v_dF2)) (wr := []) hP hD [0, 1, 2, 3] [] [0, 1, 2, 3] rfl rfl (by decide) (by decide) hk9 hFc hB9 ht9 (by decide) rfl
      clear hB9 hk9 hz9 hvm9 ht9 hFc hPc hDc
      generalize H1 = H at hP hS ⊢
      exact J_54 _ (by subst eu_51; subst er_23; simp only [if_neg c_8, if_pos c_26]) _ _ hP hD hS ls (lv_sub hl [0, 1] rfl)
    · skip
      refine lv_aload_n hx hb dX1_add_29 rfl (lv_at hl 0 rfl) ?_
      refine lv_iconst (v := (-1)) hx hb dX1_add_30 (by decide) ?_
      refine lv_aload_n hx hb dX1_add_31 rfl (lv_at hl 1 rfl) ?_
      refine lv_iconst (v := 1) hx hb dX1_add_32 (by decide) ?_
      have hPc : va_P D vwCl (wX1_combine cI cB a_d a_dg a_d2 a_dg2 v_below v_dF v_below2 v_dF2) H := hP.sub [0, 1, 2, 3] rfl
      have hDc : va_D A (wX1_combine cI cB a_d a_dg a_d2 a_dg2 v_below v_dF v_below2 v_dF2) := hD.sub [0, 1, 2, 3] (by decide) rfl
      have hFc := va_free (wc := (wX1_combine cI cB a_d a_dg a_d2 a_dg2 v_below v_dF v_below2 v_dF2)) hD hS hA [0, 1, 2, 3] rfl
      refine va_callv (va_runV (As := [.int (-1), .ref a_d2, .int 1]) (rest := []) ⟨hx, hb, hml, hown, hts⟩ (kX1_combine l D cI cB a_d a_dg a_d2 a_dg2 H.size v_below v_dF v_below2 v_dF2 (-1) 1) (cwV 3 hts (gd_V wd_177 wd_178 wd_179 wd_138 wd_170) rfl rfl rfl hdX1_combine ⟨Nat.le_of_ble_eq_true rfl, Nat.le_of_ble_eq_true rfl⟩) (preV_std (ci := 1) (q0 := 0) hPc hK hDc hNW rfl rfl) rfl rfl hl.1 rfl (lv_room (Nat.le_of_ble_eq_true rfl)) dX1_add_33 ⟨Nat.zero_le _, Nat.zero_le _⟩) hS (fun q _ h => hFc q h) hFc (fun u_33 t9 H1 locs ht9 hvm9 hw9 hB9 hz9 hk9 hS => ?_)
      have eu_33 : u_33 = fX1_combine (-1) 1 v_dF v_dF2 := hw9
      obtain ⟨hP, hD⟩ := back_std (w1 := (wX1_combine cI cB a_d a_dg a_d2 a_dg2 v_below u_33 v_below2 v_dF2)) (w2 := (wX1_add cI cB a_d a_dg a_d2 a_dg2 v_below u_33 v_below2 v_dF2)) (wr := []) hP hD [0, 1, 2, 3] [] [0, 1, 2, 3] rfl rfl (by decide) (by decide) hk9 hFc hB9 ht9 (by decide) rfl
      clear hB9 hk9 hz9 hvm9 ht9 hFc hPc hDc
      generalize H1 = H at hP hS ⊢
      refine lv_aload_n hx hb dX1_add_36 rfl (lv_at hl 0 rfl) ?_
      refine lv_aload_n hx hb dX1_add_37 rfl (lv_at hl 1 rfl) ?_
      refine va_get (D := D) (ci := 1) (v := .int v_below2) (C := RX1) (T := TX1) (N := 2) hx hb hts in_X1 hown hK hP 2 rfl rfl 1 (by decide) q_0 (fun _ h9 => h9) rfl dX1_add_38 ?_
      refine va_put (D := D) (ci := 1) (v := .int v_below2) (ty := .boolean) (C := RX1) (T := TX1) (N := 2) hx hb hts in_X1 tyX1 tyX1_ok nmX1 hown hK hP hD hS 0 rfl rfl 1 (by decide) q_0 (fun _ h9 => h9) rfl (by decide +kernel) (zb_narrow (by assumption)) (zb_fits (by assumption)) (Nat.le_of_ble_eq_true rfl) dX1_add_41 (fun H locs hP hD hS => ?_)
      have hP : va_P D vwCl (wX1_add cI cB a_d a_dg a_d2 a_dg2 v_below2 u_33 v_below2 v_dF2) H := hP
      have hD : va_D A (wX1_add cI cB a_d a_dg a_d2 a_dg2 v_below2 u_33 v_below2 v_dF2) := hD
      refine lv_goto (tgt := 54) hx hb dX1_add_44 (by decide) ?_
      exact J_54 _ (by subst eu_33; subst er_23; simp only [if_neg c_8, if_neg c_26]) _ _ hP hD hS ls (lv_sub hl [0, 1] rfl)
  · skip
    refine lv_aload_n hx hb dX1_add_11 rfl (lv_at hl 0 rfl) ?_
    refine lv_iconst (v := 1) hx hb dX1_add_12 (by decide) ?_
    refine lv_aload_n hx hb dX1_add_13 rfl (lv_at hl 1 rfl) ?_
    refine lv_iconst (v := 1) hx hb dX1_add_14 (by decide) ?_
    have hPc : va_P D vwCl (wX1_combine cI cB a_d a_dg a_d2 a_dg2 v_below v_dF v_below2 v_dF2) H := hP.sub [0, 1, 2, 3] rfl
    have hDc : va_D A (wX1_combine cI cB a_d a_dg a_d2 a_dg2 v_below v_dF v_below2 v_dF2) := hD.sub [0, 1, 2, 3] (by decide) rfl
    have hFc := va_free (wc := (wX1_combine cI cB a_d a_dg a_d2 a_dg2 v_below v_dF v_below2 v_dF2)) hD hS hA [0, 1, 2, 3] rfl
    refine va_callv (va_runV (As := [.int 1, .ref a_d2, .int 1]) (rest := []) ⟨hx, hb, hml, hown, hts⟩ (kX1_combine l D cI cB a_d a_dg a_d2 a_dg2 H.size v_below v_dF v_below2 v_dF2 1 1) (cwV 3 hts (gd_V wd_177 wd_178 wd_179 wd_138 wd_170) rfl rfl rfl hdX1_combine ⟨Nat.le_of_ble_eq_true rfl, Nat.le_of_ble_eq_true rfl⟩) (preV_std (ci := 1) (q0 := 0) hPc hK hDc hNW rfl rfl) rfl rfl hl.1 rfl (lv_room (Nat.le_of_ble_eq_true rfl)) dX1_add_15 ⟨Nat.zero_le _, Nat.zero_le _⟩) hS (fun q _ h => hFc q h) hFc (fun u_15 t9 H1 locs ht9 hvm9 hw9 hB9 hz9 hk9 hS => ?_)
    have eu_15 : u_15 = fX1_combine 1 1 v_dF v_dF2 := hw9
    obtain ⟨hP, hD⟩ := back_std (w1 := (wX1_combine cI cB a_d a_dg a_d2 a_dg2 v_below u_15 v_below2 v_dF2)) (w2 := (wX1_add cI cB a_d a_dg a_d2 a_dg2 v_below u_15 v_below2 v_dF2)) (wr := []) hP hD [0, 1, 2, 3] [] [0, 1, 2, 3] rfl rfl (by decide) (by decide) hk9 hFc hB9 ht9 (by decide) rfl
    clear hB9 hk9 hz9 hvm9 ht9 hFc hPc hDc
    generalize H1 = H at hP hS ⊢
    refine lv_goto (tgt := 54) hx hb dX1_add_18 (by decide) ?_
    exact J_54 _ (by subst eu_15; simp only [if_pos c_8]) _ _ hP hD hS ls (lv_sub hl [0, 1] rfl)
theorem hdX1_add : yX1_add.cls = RX1 ∧ yX1_add.cls ≠ "java/lang/invoke/MethodHandle" ∧ yX1_add.cls ≠ "java/lang/invoke/VarHandle" ∧ (parseMethodDescriptor yX1_add.desc).map (fun d => d.parameters.length) = some 1 := by decide +kernel
def LX1_multiply_5 (x0 : Int64) : Nat → ((Nat → Int32) × Int64 × Int32) → ((Nat → Int32) × Int64 × Int32)
  | 0, w_5 => w_5
  | n9 + 1, w_5 =>
    if 32 ≤ w_5.2.2 then ((w_5.1, w_5.2.1, w_5.2.2)) else (let x_24 := ((((w_5.1 (w_5.2.2 : Int32).toNatClampNeg) : Int32).toInt64 * x0) + w_5.2.1); let f_39 := upd w_5.1 (w_5.2.2 : Int32).toNatClampNeg (((x_24 - x_24 / 10 * 10) : Int64).toInt32); let x_46 := (x_24 / 10); let x_47 := w_5.2.2 + 1; LX1_multiply_5 x0 n9 (f_39, x_46, x_47))
def fX1_multiply (x0 : Int64) (v_dF : (Nat → Int32)) : (Nat → Int32) :=
  let g_5 := LX1_multiply_5 x0 (((32 : Int32).toInt - (0 : Int32).toInt).toNat + 1) (v_dF, 0, 0)
  g_5.1
abbrev wX1_multiply (cI cB : ClassId) (a_d a_dg : Nat) (v_below : Int32) (v_dF : (Nat → Int32)) : va_W := [(a_d, .inr (1, [.ref a_dg, .int v_below])), (a_dg, .inl (cI, 32, .inl v_dF))]
abbrev rmX1_multiply : Room := { frames := 0, cells := 0, slots := 0, locals := 0 }
abbrev qX1_multiply (D : va_G) (cI cB : ClassId) (a_d a_dg : Nat) (v_below : Int32) (v_dF : (Nat → Int32)) (x0 : Int64) : (Nat → Prop) → Array Value → State → Outcome → State → Prop := fun A9 => va_Qv (fun (u9 : (Nat → Int32)) => u9 = fX1_multiply x0 v_dF) (fun u9 t9 => atW D (TYS cI cB) A9 (wX1_multiply cI cB a_d a_dg v_below u9) t9) A9
set_option maxHeartbeats 4000000 in
set_option maxRecDepth 100000 in
theorem kX1_multiply (l : Launch) (D : va_G) (cI cB : ClassId) (a_d a_dg : Nat) (sz : Nat) (v_below : Int32) (v_dF : (Nat → Int32)) (x0 : Int64) : MetW l yX1_multiply (WK yX1_multiply cX1_multiply 8 none) rmX1_multiply D (TYS cI cB) (wX1_multiply cI cB a_d a_dg v_below v_dF) sz [.ref a_d, .long x0] (qX1_multiply D cI cB a_d a_dg v_below v_dF x0) 0 0 := by
  refine met_std (by decide) rfl (Nat.le_of_ble_eq_true rfl) ?_
  intro p e s m below meth c A ls H hx hb hr hml hown hts hlocks hA hP hK hD hS hNW hl
  have hl : lv_has ls 8 [(0, .ref a_d), (1, .long x0)] := hl
  have q_0 := hts _ (List.mem_cons_of_mem _ wd_129)
  have q_1 := hts _ (List.mem_cons_of_mem _ wd_163)
  refine lv_lconst (v := 0) hx hb dX1_multiply_0 (by decide) ?_
  refine lv_lstore_n (lv' := [(3, .long 0), (0, .ref a_d), (1, .long x0)]) hx hb dX1_multiply_1 rfl hl (by decide) rfl (fun ls hl => ?_)
  refine lv_iconst (v := 0) hx hb dX1_multiply_2 (by decide) ?_
  refine lv_istore (lv' := [(5, .int 0), (3, .long 0), (0, .ref a_d), (1, .long x0)]) hx hb dX1_multiply_3 hl (by decide) rfl (fun ls hl => ?_)
  obtain ⟨g_5, eg_5⟩ : ∃ z : ((Nat → Int32) × Int64 × Int32), z = LX1_multiply_5 x0 (((32 : Int32).toInt - (0 : Int32).toInt).toNat + 1) (v_dF, 0, 0) := ⟨_, rfl⟩
  have K_5_0 : ∀ (H : Heap) (locs : List Loc), va_P D vwCl (wX1_multiply cI cB a_d a_dg v_below g_5.1) H → va_D A (wX1_multiply cI cB a_d a_dg v_below g_5.1) → va_S A s.heap H locs → ∀ (ls : Array Slot), lv_has ls 8 [(0, .ref a_d), (1, .long x0), (3, .long g_5.2.1), (5, .int g_5.2.2)] → W p l e rmX1_multiply s m ([.ref a_d, .long x0] : List Value).toArray below meth c H locs 0 0 (MQ below (qX1_multiply D cI cB a_d a_dg v_below v_dF x0 A) ([.ref a_d, .long x0] : List Value).toArray s 0 0 A) (F0 m 53 ls []) := by
    intro H locs hP hD hS ls hl
    have hf9 : g_5.1 = fX1_multiply x0 v_dF := by subst eg_5; simp only [fX1_multiply]
    exact W.vret hx hb hr (fun t9 ht9 hW9 => ⟨⟨g_5.1, rfl, hf9, ⟨by rw [ht9]; exact hP, va_K.moved hW9.alike hK, hD⟩⟩, hS.F ht9⟩) hS.2.2 dX1_multiply_53
  have lp_5 : ∀ (n9 : Nat) (w_5 : ((Nat → Int32) × Int64 × Int32)), ((32 : Int32).toInt - (w_5.2.2 : Int32).toInt).toNat < n9 → 0 ≤ w_5.2.2 → LX1_multiply_5 x0 n9 w_5 = g_5 → ∀ (H : Heap) (locs : List Loc), va_P D vwCl (wX1_multiply cI cB a_d a_dg v_below w_5.1) H → va_D A (wX1_multiply cI cB a_d a_dg v_below w_5.1) → va_S A s.heap H locs → ∀ (ls : Array Slot), lv_has ls 8 [(0, .ref a_d), (1, .long x0), (3, .long w_5.2.1), (5, .int w_5.2.2)] → W p l e rmX1_multiply s m ([.ref a_d, .long x0] : List Value).toArray below meth c H locs 0 0 (MQ below (qX1_multiply D cI cB a_d a_dg v_below v_dF x0 A) ([.ref a_d, .long x0] : List Value).toArray s 0 0 A) (F0 m 5 ls []) := by
    intro n9
    induction n9 with
    | zero => intro w_5 hm9; exact absurd hm9 (Nat.not_lt_zero _)
    | succ n9 ih =>
      intro w_5 hm9 hI9 hL9 H locs hP hD hS ls hl
      refine lv_iload hx hb dX1_multiply_5 (lv_at hl 3 rfl) ?_
      refine lv_bipush (v := 32) hx hb dX1_multiply_7 (by decide) ?_
      refine lv_icmp_ge (tgt := 53) hx hb dX1_multiply_9 (by decide) (fun c_9 => ?_) (fun c_9 => ?_)
      · skip
        have hg9 : (w_5.1, w_5.2.1, w_5.2.2) = g_5 := by rw [← hL9]; simp only [LX1_multiply_5, if_pos c_9]
        subst hg9
        exact K_5_0 _ _ hP hD hS ls (lv_sub hl [0, 1, 2, 3] rfl)
      · skip
        refine lv_aload_n hx hb dX1_multiply_12 rfl (lv_at hl 0 rfl) ?_
        refine va_get (D := D) (ci := 1) (v := .ref a_dg) (C := RX1) (T := TX1) (N := 2) hx hb hts in_X1 hown hK hP 0 rfl rfl 0 (by decide) q_0 (fun _ h9 => h9) rfl dX1_multiply_13 ?_
        refine lv_iload hx hb dX1_multiply_16 (lv_at hl 3 rfl) ?_
        refine va_iald hx hb hK hP 1 0 rfl rfl (by first | assumption | exact vin_of (b := 32) (by decide) hI9 (by assumption) | exact vin_of (b := 32) (by decide) (by assumption) (by assumption) | exact vin_of (b := 32) (by decide) (Int32.not_lt.mp (by assumption)) (by assumption) | exact vin_dn (by decide) (by assumption) hI9) dX1_multiply_18 ?_
        refine lv_i2l hx hb dX1_multiply_19 rfl ?_
        refine lv_lload_n hx hb dX1_multiply_20 rfl (lv_at hl 1 rfl) ?_
        refine lv_lmul hx hb dX1_multiply_21 ?_
        refine lv_lload_n hx hb dX1_multiply_22 rfl (lv_at hl 2 rfl) ?_
        refine lv_ladd hx hb dX1_multiply_23 ?_
        refine lv_topl (fun x_24 ex_24 => ?_)
        refine lv_lstore (lv' := [(6, .long x_24), (0, .ref a_d), (1, .long x0), (3, .long w_5.2.1), (5, .int w_5.2.2)]) hx hb dX1_multiply_24 hl (by decide) rfl (fun ls hl => ?_)
        refine lv_aload_n hx hb dX1_multiply_26 rfl (lv_at hl 1 rfl) ?_
        refine va_get (D := D) (ci := 1) (v := .ref a_dg) (C := RX1) (T := TX1) (N := 2) hx hb hts in_X1 hown hK hP 0 rfl rfl 0 (by decide) q_0 (fun _ h9 => h9) rfl dX1_multiply_27 ?_
        refine lv_iload hx hb dX1_multiply_30 (lv_at hl 4 rfl) ?_
        refine lv_lload hx hb dX1_multiply_32 (lv_at hl 0 rfl) ?_
        refine lv_ldc2 (v := 10) hx hb hown q_1 dX1_multiply_34 ?_
        refine lv_lrem hx hb dX1_multiply_37 (by decide) ?_
        refine lv_l2i hx hb dX1_multiply_38 rfl ?_
        refine va_iast hx hb hK hP hD hS 1 0 rfl rfl (by first | assumption | exact vin_of (b := 32) (by decide) hI9 (by assumption) | exact vin_of (b := 32) (by decide) (by assumption) (by assumption) | exact vin_of (b := 32) (by decide) (Int32.not_lt.mp (by assumption)) (by assumption) | exact vin_dn (by decide) (by assumption) hI9) dX1_multiply_39 (fun H locs hP hD hS => ?_)
        obtain ⟨f_39, ef_39⟩ : ∃ z : Nat → Int32, z = upd w_5.1 (w_5.2.2 : Int32).toNatClampNeg (((x_24 - x_24 / 10 * 10) : Int64).toInt32) := ⟨_, rfl⟩
        have hP : va_P D vwCl (wX1_multiply cI cB a_d a_dg v_below (upd w_5.1 (w_5.2.2 : Int32).toNatClampNeg (((x_24 - x_24 / 10 * 10) : Int64).toInt32))) H := hP
        have hD : va_D A (wX1_multiply cI cB a_d a_dg v_below (upd w_5.1 (w_5.2.2 : Int32).toNatClampNeg (((x_24 - x_24 / 10 * 10) : Int64).toInt32))) := hD
        rw [← ef_39] at hP hD
        refine lv_lload hx hb dX1_multiply_40 (lv_at hl 0 rfl) ?_
        refine lv_ldc2 (v := 10) hx hb hown q_1 dX1_multiply_42 ?_
        refine lv_ldiv hx hb dX1_multiply_45 (by decide) ?_
        refine lv_topl (fun x_46 ex_46 => ?_)
        refine lv_lstore_n (lv' := [(3, .long x_46), (6, .long x_24), (0, .ref a_d), (1, .long x0), (5, .int w_5.2.2)]) hx hb dX1_multiply_46 rfl hl (by decide) rfl (fun ls hl => ?_)
        obtain ⟨x_47, ex_47⟩ : ∃ z : Int32, z = w_5.2.2 + 1 := ⟨_, rfl⟩
        refine lv_iinc (v := x_47) (lv' := [(5, .int x_47), (3, .long x_46), (6, .long x_24), (0, .ref a_d), (1, .long x0)]) hx hb dX1_multiply_47 hl (k := 4) rfl (by rw [ex_47]; rfl) (by decide) rfl (fun ls hl => ?_)
        refine lv_goto (tgt := 5) hx hb dX1_multiply_50 (by decide) ?_
        exact ih (f_39, x_46, x_47) (by subst ex_47; subst ex_46; subst ef_39; subst ex_24;  exact Nat.lt_of_lt_of_le (ms_up c_9) (Nat.le_of_lt_succ hm9)) (by subst ex_47; subst ex_46; subst ef_39; subst ex_24;  exact nn_up hI9 c_9) (by rw [← hL9]; subst ex_47; subst ex_46; subst ef_39; subst ex_24; simp only [LX1_multiply_5, if_neg c_9]) _ _ hP hD hS ls (lv_sub hl [3, 4, 1, 0] rfl)
  exact lp_5 (((32 : Int32).toInt - (0 : Int32).toInt).toNat + 1) (v_dF, 0, 0) (Nat.lt_succ_self _) (by decide) eg_5.symm _ _ hP hD hS ls (lv_sub hl [2, 3, 1, 0] rfl)
theorem hdX1_multiply : yX1_multiply.cls = RX1 ∧ yX1_multiply.cls ≠ "java/lang/invoke/MethodHandle" ∧ yX1_multiply.cls ≠ "java/lang/invoke/VarHandle" ∧ (parseMethodDescriptor yX1_multiply.desc).map (fun d => d.parameters.length) = some 1 := by decide +kernel
def LX1_divide_14 (x0 : Int64) : Nat → ((Nat → Int32) × Int64 × Int32) → ((Nat → Int32) × Int64 × Int32)
  | 0, w_14 => w_14
  | n9 + 1, w_14 =>
    if w_14.2.2 < 0 then ((w_14.1, w_14.2.1, w_14.2.2)) else (let x_33 := ((w_14.2.1 * 10) + ((w_14.1 (w_14.2.2 : Int32).toNatClampNeg) : Int32).toInt64); let f_44 := upd w_14.1 (w_14.2.2 : Int32).toNatClampNeg (((x_33 / x0) : Int64).toInt32); let x_48 := (x_33 - x_33 / x0 * x0); let x_49 := w_14.2.2 + (-1); LX1_divide_14 x0 n9 (f_44, x_48, x_49))
def fX1_divide (x0 : Int64) (v_dF : (Nat → Int32)) : (Int64 × (Nat → Int32)) :=
  if 0 < (lg_cmp (x0) (0)) then (let g_14 := LX1_divide_14 x0 (((31 : Int32).toInt + 1).toNat + 1) (v_dF, 0, 31); (g_14.2.1, g_14.1)) else ((0, v_dF))
abbrev wX1_divide (cI cB : ClassId) (a_d a_dg : Nat) (v_below : Int32) (v_dF : (Nat → Int32)) : va_W := [(a_d, .inr (1, [.ref a_dg, .int v_below])), (a_dg, .inl (cI, 32, .inl v_dF))]
abbrev rmX1_divide : Room := { frames := 0, cells := 0, slots := 0, locals := 0 }
abbrev qX1_divide (D : va_G) (cI cB : ClassId) (a_d a_dg : Nat) (v_below : Int32) (v_dF : (Nat → Int32)) (x0 : Int64) : (Nat → Prop) → Array Value → State → Outcome → State → Prop := fun A9 => va_Ql (fun (r9 : Int64) (u9 : (Nat → Int32)) => r9 = (fX1_divide x0 v_dF).1 ∧ u9 = (fX1_divide x0 v_dF).2) (fun u9 t9 => atW D (TYS cI cB) A9 (wX1_divide cI cB a_d a_dg v_below u9) t9) A9
set_option maxHeartbeats 4000000 in
set_option maxRecDepth 100000 in
theorem kX1_divide (l : Launch) (D : va_G) (cI cB : ClassId) (a_d a_dg : Nat) (sz : Nat) (v_below : Int32) (v_dF : (Nat → Int32)) (x0 : Int64) : MetW l yX1_divide (WK yX1_divide cX1_divide 6 (some .long)) rmX1_divide D (TYS cI cB) (wX1_divide cI cB a_d a_dg v_below v_dF) sz [.ref a_d, .long x0] (qX1_divide D cI cB a_d a_dg v_below v_dF x0) 0 0 := by
  refine met_std (by decide) rfl (Nat.le_of_ble_eq_true rfl) ?_
  intro p e s m below meth c A ls H hx hb hr hml hown hts hlocks hA hP hK hD hS hNW hl
  have hl : lv_has ls 6 [(0, .ref a_d), (1, .long x0)] := hl
  have q_0 := hts _ (List.mem_cons_of_mem _ wd_163)
  have q_1 := hts _ (List.mem_cons_of_mem _ wd_129)
  refine lv_lload_n hx hb dX1_divide_0 rfl (lv_at hl 1 rfl) ?_
  refine lv_lconst (v := 0) hx hb dX1_divide_1 (by decide) ?_
  refine W.lcmp hx hb dX1_divide_2 ?_
  refine lv_if_gt (tgt := 8) hx hb dX1_divide_3 (by decide) (fun c_3 => ?_) (fun c_3 => ?_)
  · skip
    refine lv_lconst (v := 0) hx hb dX1_divide_8 (by decide) ?_
    refine lv_lstore_n (lv' := [(3, .long 0), (0, .ref a_d), (1, .long x0)]) hx hb dX1_divide_9 rfl hl (by decide) rfl (fun ls hl => ?_)
    refine lv_bipush (v := 31) hx hb dX1_divide_10 (by decide) ?_
    refine lv_istore (lv' := [(5, .int 31), (3, .long 0), (0, .ref a_d), (1, .long x0)]) hx hb dX1_divide_12 hl (by decide) rfl (fun ls hl => ?_)
    obtain ⟨g_14, eg_14⟩ : ∃ z : ((Nat → Int32) × Int64 × Int32), z = LX1_divide_14 x0 (((31 : Int32).toInt + 1).toNat + 1) (v_dF, 0, 31) := ⟨_, rfl⟩
    have K_14_0 : ∀ (H : Heap) (locs : List Loc), va_P D vwCl (wX1_divide cI cB a_d a_dg v_below g_14.1) H → va_D A (wX1_divide cI cB a_d a_dg v_below g_14.1) → va_S A s.heap H locs → ∀ (ls : Array Slot), lv_has ls 6 [(0, .ref a_d), (1, .long x0), (3, .long g_14.2.1), (5, .int g_14.2.2)] → W p l e rmX1_divide s m ([.ref a_d, .long x0] : List Value).toArray below meth c H locs 0 0 (MQ below (qX1_divide D cI cB a_d a_dg v_below v_dF x0 A) ([.ref a_d, .long x0] : List Value).toArray s 0 0 A) (F0 m 55 ls []) := by
      intro H locs hP hD hS ls hl
      refine lv_lload_n hx hb dX1_divide_55 rfl (lv_at hl 2 rfl) ?_
      have hf9 : (g_14.2.1, g_14.1) = fX1_divide x0 v_dF := by subst eg_14; simp only [fX1_divide, if_pos c_3]
      exact W.lret hx hb hr (fun t9 ht9 hW9 => ⟨⟨g_14.2.1, g_14.1, rfl, ⟨by rw [← hf9], by rw [← hf9]⟩, ⟨by rw [ht9]; exact hP, va_K.moved hW9.alike hK, hD⟩⟩, hS.F ht9⟩) hS.2.2 dX1_divide_56
    have lp_14 : ∀ (n9 : Nat) (w_14 : ((Nat → Int32) × Int64 × Int32)), ((w_14.2.2 : Int32).toInt + 1).toNat < n9 → w_14.2.2 ≤ 31 → LX1_divide_14 x0 n9 w_14 = g_14 → ∀ (H : Heap) (locs : List Loc), va_P D vwCl (wX1_divide cI cB a_d a_dg v_below w_14.1) H → va_D A (wX1_divide cI cB a_d a_dg v_below w_14.1) → va_S A s.heap H locs → ∀ (ls : Array Slot), lv_has ls 6 [(0, .ref a_d), (1, .long x0), (3, .long w_14.2.1), (5, .int w_14.2.2)] → W p l e rmX1_divide s m ([.ref a_d, .long x0] : List Value).toArray below meth c H locs 0 0 (MQ below (qX1_divide D cI cB a_d a_dg v_below v_dF x0 A) ([.ref a_d, .long x0] : List Value).toArray s 0 0 A) (F0 m 14 ls []) := by
      intro n9
      induction n9 with
      | zero => intro w_14 hm9; exact absurd hm9 (Nat.not_lt_zero _)
      | succ n9 ih =>
        intro w_14 hm9 hI9 hL9 H locs hP hD hS ls hl
        refine lv_iload hx hb dX1_divide_14 (lv_at hl 3 rfl) ?_
        refine lv_if_lt (tgt := 55) hx hb dX1_divide_16 (by decide) (fun c_16 => ?_) (fun c_16 => ?_)
        · skip
          have hg9 : (w_14.1, w_14.2.1, w_14.2.2) = g_14 := by rw [← hL9]; simp only [LX1_divide_14, if_pos c_16]
          subst hg9
          exact K_14_0 _ _ hP hD hS ls (lv_sub hl [0, 1, 2, 3] rfl)
        · skip
          refine lv_lload_n hx hb dX1_divide_19 rfl (lv_at hl 2 rfl) ?_
          refine lv_ldc2 (v := 10) hx hb hown q_0 dX1_divide_20 ?_
          refine lv_lmul hx hb dX1_divide_23 ?_
          refine lv_aload_n hx hb dX1_divide_24 rfl (lv_at hl 0 rfl) ?_
          refine va_get (D := D) (ci := 1) (v := .ref a_dg) (C := RX1) (T := TX1) (N := 2) hx hb hts in_X1 hown hK hP 0 rfl rfl 0 (by decide) q_1 (fun _ h9 => h9) rfl dX1_divide_25 ?_
          refine lv_iload hx hb dX1_divide_28 (lv_at hl 3 rfl) ?_
          refine va_iald hx hb hK hP 1 0 rfl rfl (by first | assumption | exact vin_of (b := 32) (by decide) hI9 (by assumption) | exact vin_of (b := 32) (by decide) (by assumption) (by assumption) | exact vin_of (b := 32) (by decide) (Int32.not_lt.mp (by assumption)) (by assumption) | exact vin_dn (by decide) (by assumption) hI9) dX1_divide_30 ?_
          refine lv_i2l hx hb dX1_divide_31 rfl ?_
          refine lv_ladd hx hb dX1_divide_32 ?_
          refine lv_topl (fun x_33 ex_33 => ?_)
          refine lv_lstore_n (lv' := [(3, .long x_33), (0, .ref a_d), (1, .long x0), (5, .int w_14.2.2)]) hx hb dX1_divide_33 rfl hl (by decide) rfl (fun ls hl => ?_)
          refine lv_aload_n hx hb dX1_divide_34 rfl (lv_at hl 1 rfl) ?_
          refine va_get (D := D) (ci := 1) (v := .ref a_dg) (C := RX1) (T := TX1) (N := 2) hx hb hts in_X1 hown hK hP 0 rfl rfl 0 (by decide) q_1 (fun _ h9 => h9) rfl dX1_divide_35 ?_
          refine lv_iload hx hb dX1_divide_38 (lv_at hl 3 rfl) ?_
          refine lv_lload_n hx hb dX1_divide_40 rfl (lv_at hl 0 rfl) ?_
          refine lv_lload_n hx hb dX1_divide_41 rfl (lv_at hl 2 rfl) ?_
          refine lv_ldiv hx hb dX1_divide_42 (by assumption) ?_
          refine lv_l2i hx hb dX1_divide_43 rfl ?_
          refine va_iast hx hb hK hP hD hS 1 0 rfl rfl (by first | assumption | exact vin_of (b := 32) (by decide) hI9 (by assumption) | exact vin_of (b := 32) (by decide) (by assumption) (by assumption) | exact vin_of (b := 32) (by decide) (Int32.not_lt.mp (by assumption)) (by assumption) | exact vin_dn (by decide) (by assumption) hI9) dX1_divide_44 (fun H locs hP hD hS => ?_)
          obtain ⟨f_44, ef_44⟩ : ∃ z : Nat → Int32, z = upd w_14.1 (w_14.2.2 : Int32).toNatClampNeg (((x_33 / x0) : Int64).toInt32) := ⟨_, rfl⟩
          have hP : va_P D vwCl (wX1_divide cI cB a_d a_dg v_below (upd w_14.1 (w_14.2.2 : Int32).toNatClampNeg (((x_33 / x0) : Int64).toInt32))) H := hP
          have hD : va_D A (wX1_divide cI cB a_d a_dg v_below (upd w_14.1 (w_14.2.2 : Int32).toNatClampNeg (((x_33 / x0) : Int64).toInt32))) := hD
          rw [← ef_44] at hP hD
          refine lv_lload_n hx hb dX1_divide_45 rfl (lv_at hl 0 rfl) ?_
          refine lv_lload_n hx hb dX1_divide_46 rfl (lv_at hl 2 rfl) ?_
          refine lv_lrem hx hb dX1_divide_47 (by assumption) ?_
          refine lv_topl (fun x_48 ex_48 => ?_)
          refine lv_lstore_n (lv' := [(3, .long x_48), (0, .ref a_d), (1, .long x0), (5, .int w_14.2.2)]) hx hb dX1_divide_48 rfl hl (by decide) rfl (fun ls hl => ?_)
          obtain ⟨x_49, ex_49⟩ : ∃ z : Int32, z = w_14.2.2 + (-1) := ⟨_, rfl⟩
          refine lv_iinc (v := x_49) (lv' := [(5, .int x_49), (3, .long x_48), (0, .ref a_d), (1, .long x0)]) hx hb dX1_divide_49 hl (k := 3) rfl (by rw [ex_49]; rfl) (by decide) rfl (fun ls hl => ?_)
          refine lv_goto (tgt := 14) hx hb dX1_divide_52 (by decide) ?_
          exact ih (f_44, x_48, x_49) (by subst ex_49; subst ex_48; subst ef_44; subst ex_33;  exact Nat.lt_of_lt_of_le (ms_dn c_16) (Nat.le_of_lt_succ hm9)) (by subst ex_49; subst ex_48; subst ef_44; subst ex_33;  exact le_dn hI9 c_16) (by rw [← hL9]; subst ex_49; subst ex_48; subst ef_44; subst ex_33; simp only [LX1_divide_14, if_neg c_16]) _ _ hP hD hS ls (lv_sub hl [2, 3, 1, 0] rfl)
    exact lp_14 (((31 : Int32).toInt + 1).toNat + 1) (v_dF, 0, 31) (Nat.lt_succ_self _) (by decide) eg_14.symm _ _ hP hD hS ls (lv_sub hl [2, 3, 1, 0] rfl)
  · skip
    refine lv_lconst (v := 0) hx hb dX1_divide_6 (by decide) ?_
    have hf9 : (0, v_dF) = fX1_divide x0 v_dF := by simp only [fX1_divide, if_neg c_3]
    exact W.lret hx hb hr (fun t9 ht9 hW9 => ⟨⟨0, v_dF, rfl, ⟨by rw [← hf9], by rw [← hf9]⟩, ⟨by rw [ht9]; exact hP, va_K.moved hW9.alike hK, hD⟩⟩, hS.F ht9⟩) hS.2.2 dX1_divide_7
theorem hdX1_divide : yX1_divide.cls = RX1 ∧ yX1_divide.cls ≠ "java/lang/invoke/MethodHandle" ∧ yX1_divide.cls ≠ "java/lang/invoke/VarHandle" ∧ (parseMethodDescriptor yX1_divide.desc).map (fun d => d.parameters.length) = some 1 := by decide +kernel
def LX1_take_45 (x2 : Int32) (v_bF : (Nat → Int32)) : Nat → ((Nat → Int32) × Int32 × Int32) → ((Nat → Int32) × Int32 × Int32)
  | 0, w_45 => w_45
  | n9 + 1, w_45 =>
    if ((2 * x2) - 1) ≤ w_45.2.2 then ((w_45.1, w_45.2.1, w_45.2.2)) else (if 32 ≤ w_45.2.2 then ((w_45.1, w_45.2.1, w_45.2.2)) else (let r_72 := fX6_get (x_5 - ((w_45.2.2 + 1) / 2)) v_bF; let m_102 : Int32 := (if (w_45.2.2 - w_45.2.2 / 2 * 2) = 0 then ((r_72 >>> (4 &&& 31))) else ((r_72 &&& 15))); let f_102 := upd w_45.1 (w_45.2.2 : Int32).toNatClampNeg (m_102); let m_125 : Int32 := (if w_45.2.1 = 0 then (0) else (if 9 < (f_102 (w_45.2.2 : Int32).toNatClampNeg) then (0) else (1))); let x_127 := w_45.2.2 + 1; LX1_take_45 x2 v_bF n9 (f_102, m_125, x_127)))
def fX1_take (x1 : Int32) (x2 : Int32) (v_bF : (Nat → Int32)) (v_below : Int32) (v_dF : (Nat → Int32)) : (Int32 × (Int32 × (Nat → Int32))) :=
  let x_5 := ((x1 + x2) - 1)
  let r_10 := fX6_get x_5 v_bF
  let x_16 := (r_10 &&& 15)
  let r_20 := fX1_isSign x_16
  let r_28 := fX1_isSignBelow x_16
  let u_39 := fJ7_fill_53178 0 v_dF
  let g_45 := LX1_take_45 x2 v_bF (((((2 * x2) - 1) : Int32).toInt - (0 : Int32).toInt).toNat + 1) (u_39, r_20, 0)
  (g_45.2.1, (r_28, g_45.1))
theorem zX1_take (x1 : Int32) (x2 : Int32) (v_bF : (Nat → Int32)) (v_below : Int32) (v_dF : (Nat → Int32)) : (fX1_take x1 x2 v_bF v_below v_dF).1 = 0 ∨ (fX1_take x1 x2 v_bF v_below v_dF).1 = 1 := by unfold fX1_take; (repeat' split) <;> first | exact Or.inl rfl | exact Or.inr rfl
abbrev wX1_take (cI cB : ClassId) (a_me a_by a_ks a_d a_dg : Nat) (v_bF : (Nat → Int32)) (v_below : Int32) (v_dF : (Nat → Int32)) : va_W := [(a_me, .inr (6, [.ref a_by, .ref a_ks])), (a_by, .inl (cB, 8192, .inl v_bF)), (a_d, .inr (1, [.ref a_dg, .int v_below])), (a_dg, .inl (cI, 32, .inl v_dF))]
abbrev rmX1_take : Room := { frames := 1, cells := 0, slots := 0, locals := 23 }
abbrev qX1_take (D : va_G) (cI cB : ClassId) (a_me a_by a_ks a_d a_dg : Nat) (v_bF : (Nat → Int32)) (v_below : Int32) (v_dF : (Nat → Int32)) (x1 : Int32) (x2 : Int32) : (Nat → Prop) → Array Value → State → Outcome → State → Prop := fun A9 => va_Qi (fun (r9 : Int32) (u9 : (Int32 × (Nat → Int32))) => r9 = (fX1_take x1 x2 v_bF v_below v_dF).1 ∧ u9 = (fX1_take x1 x2 v_bF v_below v_dF).2) (fun u9 t9 => atW D (TYS cI cB) A9 (wX1_take cI cB a_me a_by a_ks a_d a_dg v_bF u9.1 u9.2) t9) A9
set_option maxHeartbeats 4000000 in
set_option maxRecDepth 100000 in
theorem kX1_take (l : Launch) (D : va_G) (cI cB : ClassId) (a_me a_by a_ks a_d a_dg : Nat) (sz : Nat) (v_bF : (Nat → Int32)) (v_below : Int32) (v_dF : (Nat → Int32)) (x1 : Int32) (x2 : Int32) : MetW l yX1_take (WK yX1_take cX1_take 9 (some .boolean)) rmX1_take D (TYS cI cB) (wX1_take cI cB a_me a_by a_ks a_d a_dg v_bF v_below v_dF) sz [.ref a_d, .ref a_me, .int x1, .int x2] (qX1_take D cI cB a_me a_by a_ks a_d a_dg v_bF v_below v_dF x1 x2) 0 0 := by
  refine met_std (by decide) rfl (Nat.le_of_ble_eq_true rfl) ?_
  intro p e s m below meth c A ls H hx hb hr hml hown hts hlocks hA hP hK hD hS hNW hl
  have hl : lv_has ls 9 [(0, .ref a_d), (1, .ref a_me), (2, .int x1), (3, .int x2)] := hl
  have q_0 := hts _ (List.mem_cons_of_mem _ wd_134)
  have q_1 := hts _ (List.mem_cons_of_mem _ wd_129)
  refine lv_iload_n hx hb dX1_take_0 rfl (lv_at hl 2 rfl) ?_
  refine lv_iload_n hx hb dX1_take_1 rfl (lv_at hl 3 rfl) ?_
  refine lv_iadd hx hb dX1_take_2 ?_
  refine lv_iconst (v := 1) hx hb dX1_take_3 (by decide) ?_
  refine lv_isub hx hb dX1_take_4 ?_
  refine lv_topi (fun x_5 ex_5 => ?_)
  refine lv_istore (lv' := [(4, .int x_5), (0, .ref a_d), (1, .ref a_me), (2, .int x1), (3, .int x2)]) hx hb dX1_take_5 hl (by decide) rfl (fun ls hl => ?_)
  refine lv_aload_n hx hb dX1_take_7 rfl (lv_at hl 2 rfl) ?_
  refine lv_iload hx hb dX1_take_8 (lv_at hl 0 rfl) ?_
  have hPc : va_P D vwCl (wX6_get cI cB a_me a_by a_ks v_bF) H := hP.sub [0, 1] rfl
  have hDc : va_D A (wX6_get cI cB a_me a_by a_ks v_bF) := hD.sub [0, 1] (by decide) rfl
  have hFc := va_free (wc := (wX6_get cI cB a_me a_by a_ks v_bF)) hD hS hA [0, 1] rfl
  refine va_calli (va_runV (As := [.int x_5]) (rest := []) ⟨hx, hb, hml, hown, hts⟩ (kX6_get l D cI cB a_me a_by a_ks H.size v_bF x_5) (cwV 1 hts (gd_V wd_135 wd_109 wd_110 wd_78 wd_102) rfl rfl rfl hdX6_get ⟨Nat.le_of_ble_eq_true rfl, Nat.le_of_ble_eq_true rfl⟩) (preV_std (ci := 6) (q0 := 0) hPc hK hDc hNW rfl rfl) rfl rfl hl.1 rfl (lv_room (Nat.le_of_ble_eq_true rfl)) dX1_take_10 ⟨Nat.zero_le _, Nat.zero_le _⟩) hS (fun q _ h => hFc q h) hFc (fun r_10 u_10 t9 H1 locs ht9 hvm9 hw9 hB9 hz9 hk9 hS => ?_)
  have er_10 : r_10 = fX6_get x_5 v_bF := hw9
  obtain ⟨hP, hD⟩ := back_std (w1 := (wX6_get cI cB a_me a_by a_ks v_bF)) (w2 := (wX1_take cI cB a_me a_by a_ks a_d a_dg v_bF v_below v_dF)) (wr := [(a_d, .inr (1, [.ref a_dg, .int v_below])), (a_dg, .inl (cI, 32, .inl v_dF))]) hP hD [0, 1] [2, 3] [2, 3, 0, 1] rfl rfl (by decide) (by decide) hk9 hFc hB9 ht9 (by decide) rfl
  clear hB9 hk9 hz9 hvm9 ht9 hFc hPc hDc
  generalize H1 = H at hP hS ⊢
  refine lv_bipush (v := 15) hx hb dX1_take_13 (by decide) ?_
  refine lv_iand hx hb dX1_take_15 ?_
  refine lv_topi (fun x_16 ex_16 => ?_)
  refine lv_istore (lv' := [(5, .int x_16), (4, .int x_5), (0, .ref a_d), (1, .ref a_me), (2, .int x1), (3, .int x2)]) hx hb dX1_take_16 hl (by decide) rfl (fun ls hl => ?_)
  refine lv_iload hx hb dX1_take_18 (lv_at hl 0 rfl) ?_
  have hPc : va_P D vwCl (wX1_isSign cI cB  ) H := hP.sub [] rfl
  have hDc : va_D A (wX1_isSign cI cB  ) := hD.sub [] (by decide) rfl
  have hFc := va_free (wc := (wX1_isSign cI cB  )) hD hS hA [] rfl
  refine va_calli (va_runS (As := [.int x_16]) (rest := []) ⟨hx, hb, hml, hown, hts⟩ (kX1_isSign l D cI cB  H.size  x_16) (va_cwS 1 hts (gd_S wd_136 wd_137 wd_138 wd_130) rfl rfl rfl hdX1_isSign.2 ⟨Nat.le_of_ble_eq_true rfl, Nat.le_of_ble_eq_true rfl⟩) (preS_std hPc hK hDc hNW) rfl rfl hl.1 rfl (lv_room (Nat.le_of_ble_eq_true rfl)) dX1_take_20 ⟨Nat.zero_le _, Nat.zero_le _⟩) hS (fun q _ h => hFc q h) hFc (fun r_20 u_20 t9 H1 locs ht9 hvm9 hw9 hB9 hz9 hk9 hS => ?_)
  have er_20 : r_20 = fX1_isSign x_16 := hw9
  have zr_20 : r_20 = 0 ∨ r_20 = 1 := by rw [er_20]; exact zX1_isSign _
  obtain ⟨hP, hD⟩ := back_std (w1 := (wX1_isSign cI cB  )) (w2 := (wX1_take cI cB a_me a_by a_ks a_d a_dg v_bF v_below v_dF)) (wr := [(a_me, .inr (6, [.ref a_by, .ref a_ks])), (a_by, .inl (cB, 8192, .inl v_bF)), (a_d, .inr (1, [.ref a_dg, .int v_below])), (a_dg, .inl (cI, 32, .inl v_dF))]) hP hD [] [0, 1, 2, 3] [0, 1, 2, 3] rfl rfl (by decide) (by decide) hk9 hFc hB9 ht9 (by decide) rfl
  clear hB9 hk9 hz9 hvm9 ht9 hFc hPc hDc
  generalize H1 = H at hP hS ⊢
  refine lv_istore (lv' := [(6, .int r_20), (5, .int x_16), (4, .int x_5), (0, .ref a_d), (1, .ref a_me), (2, .int x1), (3, .int x2)]) hx hb dX1_take_23 hl (by decide) rfl (fun ls hl => ?_)
  refine lv_aload_n hx hb dX1_take_25 rfl (lv_at hl 3 rfl) ?_
  refine lv_iload hx hb dX1_take_26 (lv_at hl 1 rfl) ?_
  have hPc : va_P D vwCl (wX1_isSignBelow cI cB  ) H := hP.sub [] rfl
  have hDc : va_D A (wX1_isSignBelow cI cB  ) := hD.sub [] (by decide) rfl
  have hFc := va_free (wc := (wX1_isSignBelow cI cB  )) hD hS hA [] rfl
  refine va_calli (va_runS (As := [.int x_16]) (rest := [.ref a_d]) ⟨hx, hb, hml, hown, hts⟩ (kX1_isSignBelow l D cI cB  H.size  x_16) (va_cwS 1 hts (gd_S wd_139 wd_140 wd_138 wd_131) rfl rfl rfl hdX1_isSignBelow.2 ⟨Nat.le_of_ble_eq_true rfl, Nat.le_of_ble_eq_true rfl⟩) (preS_std hPc hK hDc hNW) rfl rfl hl.1 rfl (lv_room (Nat.le_of_ble_eq_true rfl)) dX1_take_28 ⟨Nat.zero_le _, Nat.zero_le _⟩) hS (fun q _ h => hFc q h) hFc (fun r_28 u_28 t9 H1 locs ht9 hvm9 hw9 hB9 hz9 hk9 hS => ?_)
  have er_28 : r_28 = fX1_isSignBelow x_16 := hw9
  have zr_28 : r_28 = 0 ∨ r_28 = 1 := by rw [er_28]; exact zX1_isSignBelow _
  obtain ⟨hP, hD⟩ := back_std (w1 := (wX1_isSignBelow cI cB  )) (w2 := (wX1_take cI cB a_me a_by a_ks a_d a_dg v_bF v_below v_dF)) (wr := [(a_me, .inr (6, [.ref a_by, .ref a_ks])), (a_by, .inl (cB, 8192, .inl v_bF)), (a_d, .inr (1, [.ref a_dg, .int v_below])), (a_dg, .inl (cI, 32, .inl v_dF))]) hP hD [] [0, 1, 2, 3] [0, 1, 2, 3] rfl rfl (by decide) (by decide) hk9 hFc hB9 ht9 (by decide) rfl
  clear hB9 hk9 hz9 hvm9 ht9 hFc hPc hDc
  generalize H1 = H at hP hS ⊢
  refine va_put (D := D) (ci := 1) (v := .int r_28) (ty := .boolean) (C := RX1) (T := TX1) (N := 2) hx hb hts in_X1 tyX1 tyX1_ok nmX1 hown hK hP hD hS 2 rfl rfl 1 (by decide) q_0 (fun _ h9 => h9) rfl (by decide +kernel) (zb_narrow (by assumption)) (zb_fits (by assumption)) (Nat.le_of_ble_eq_true rfl) dX1_take_31 (fun H locs hP hD hS => ?_)
  have hP : va_P D vwCl (wX1_take cI cB a_me a_by a_ks a_d a_dg v_bF r_28 v_dF) H := hP
  have hD : va_D A (wX1_take cI cB a_me a_by a_ks a_d a_dg v_bF r_28 v_dF) := hD
  refine lv_aload_n hx hb dX1_take_34 rfl (lv_at hl 3 rfl) ?_
  refine va_get (D := D) (ci := 1) (v := .ref a_dg) (C := RX1) (T := TX1) (N := 2) hx hb hts in_X1 hown hK hP 2 rfl rfl 0 (by decide) q_1 (fun _ h9 => h9) rfl dX1_take_35 ?_
  refine lv_iconst (v := 0) hx hb dX1_take_38 (by decide) ?_
  have hPc : va_P D vwCl (wJ7_fill_53178 cI cB a_dg v_dF) H := hP.sub [3] rfl
  have hDc : va_D A (wJ7_fill_53178 cI cB a_dg v_dF) := hD.sub [3] (by decide) rfl
  have hFc := va_free (wc := (wJ7_fill_53178 cI cB a_dg v_dF)) hD hS hA [3] rfl
  refine va_callv (va_runS (As := [.ref a_dg, .int 0]) (rest := []) ⟨hx, hb, hml, hown, hts⟩ (kJ7_fill_53178 l D cI cB a_dg H.size v_dF 0) (va_cwS 2 hts (gd_S wd_141 wd_142 wd_143 wd_132) rfl rfl rfl hdJ7_fill_53178.2 ⟨Nat.le_of_ble_eq_true rfl, Nat.le_of_ble_eq_true rfl⟩) (preS_std hPc hK hDc hNW) rfl rfl hl.1 rfl (lv_room (Nat.le_of_ble_eq_true rfl)) dX1_take_39 ⟨Nat.zero_le _, Nat.zero_le _⟩) hS (fun q _ h => hFc q h) hFc (fun u_39 t9 H1 locs ht9 hvm9 hw9 hB9 hz9 hk9 hS => ?_)
  have eu_39 : u_39 = fJ7_fill_53178 0 v_dF := hw9
  obtain ⟨hP, hD⟩ := back_std (w1 := (wJ7_fill_53178 cI cB a_dg u_39)) (w2 := (wX1_take cI cB a_me a_by a_ks a_d a_dg v_bF r_28 u_39)) (wr := [(a_me, .inr (6, [.ref a_by, .ref a_ks])), (a_by, .inl (cB, 8192, .inl v_bF)), (a_d, .inr (1, [.ref a_dg, .int r_28]))]) hP hD [3] [0, 1, 2] [0, 1, 2, 3] rfl rfl (by decide) (by decide) hk9 hFc hB9 ht9 (by decide) rfl
  clear hB9 hk9 hz9 hvm9 ht9 hFc hPc hDc
  generalize H1 = H at hP hS ⊢
  refine lv_iconst (v := 0) hx hb dX1_take_42 (by decide) ?_
  refine lv_istore (lv' := [(7, .int 0), (6, .int r_20), (5, .int x_16), (4, .int x_5), (0, .ref a_d), (1, .ref a_me), (2, .int x1), (3, .int x2)]) hx hb dX1_take_43 hl (by decide) rfl (fun ls hl => ?_)
  obtain ⟨g_45, eg_45⟩ : ∃ z : ((Nat → Int32) × Int32 × Int32), z = LX1_take_45 x2 v_bF (((((2 * x2) - 1) : Int32).toInt - (0 : Int32).toInt).toNat + 1) (u_39, r_20, 0) := ⟨_, rfl⟩
  have K_45_0 : ∀ (H : Heap) (locs : List Loc), va_P D vwCl (wX1_take cI cB a_me a_by a_ks a_d a_dg v_bF r_28 g_45.1) H → va_D A (wX1_take cI cB a_me a_by a_ks a_d a_dg v_bF r_28 g_45.1) → va_S A s.heap H locs → ∀ (ls : Array Slot), lv_has ls 9 [(0, .ref a_d), (1, .ref a_me), (2, .int x1), (3, .int x2), (4, .int x_5), (5, .int x_16), (6, .int g_45.2.1), (7, .int g_45.2.2)] → W p l e rmX1_take s m ([.ref a_d, .ref a_me, .int x1, .int x2] : List Value).toArray below meth c H locs 0 0 (MQ below (qX1_take D cI cB a_me a_by a_ks a_d a_dg v_bF v_below v_dF x1 x2 A) ([.ref a_d, .ref a_me, .int x1, .int x2] : List Value).toArray s 0 0 A) (F0 m 133 ls []) := by
    intro H locs hP hD hS ls hl
    refine lv_iload hx hb dX1_take_133 (lv_at hl 6 rfl) ?_
    have hf9 : (g_45.2.1, (r_28, g_45.1)) = fX1_take x1 x2 v_bF v_below v_dF := by subst eg_45; subst eu_39; subst er_28; subst er_20; subst ex_16; subst er_10; subst ex_5; simp only [fX1_take]
    exact W.zret hx hb hr (zb_narrow (by assumption)) (fun t9 ht9 hW9 => ⟨⟨g_45.2.1, (r_28, g_45.1), rfl, ⟨by rw [← hf9], by rw [← hf9]⟩, ⟨by rw [ht9]; exact hP, va_K.moved hW9.alike hK, hD⟩⟩, hS.F ht9⟩) hS.2.2 dX1_take_135
  have lp_45 : ∀ (n9 : Nat) (w_45 : ((Nat → Int32) × Int32 × Int32)), ((((2 * x2) - 1) : Int32).toInt - (w_45.2.2 : Int32).toInt).toNat < n9 → 0 ≤ w_45.2.2 → LX1_take_45 x2 v_bF n9 w_45 = g_45 → ∀ (H : Heap) (locs : List Loc), va_P D vwCl (wX1_take cI cB a_me a_by a_ks a_d a_dg v_bF r_28 w_45.1) H → va_D A (wX1_take cI cB a_me a_by a_ks a_d a_dg v_bF r_28 w_45.1) → va_S A s.heap H locs → ∀ (ls : Array Slot), lv_has ls 9 [(0, .ref a_d), (1, .ref a_me), (2, .int x1), (3, .int x2), (4, .int x_5), (5, .int x_16), (6, .int w_45.2.1), (7, .int w_45.2.2)] → W p l e rmX1_take s m ([.ref a_d, .ref a_me, .int x1, .int x2] : List Value).toArray below meth c H locs 0 0 (MQ below (qX1_take D cI cB a_me a_by a_ks a_d a_dg v_bF v_below v_dF x1 x2 A) ([.ref a_d, .ref a_me, .int x1, .int x2] : List Value).toArray s 0 0 A) (F0 m 45 ls []) := by
    intro n9
    induction n9 with
    | zero => intro w_45 hm9; exact absurd hm9 (Nat.not_lt_zero _)
    | succ n9 ih =>
      intro w_45 hm9 hI9 hL9 H locs hP hD hS ls hl
      refine lv_iload hx hb dX1_take_45 (lv_at hl 7 rfl) ?_
      refine lv_iconst (v := 2) hx hb dX1_take_47 (by decide) ?_
      refine lv_iload_n hx hb dX1_take_48 rfl (lv_at hl 3 rfl) ?_
      refine lv_imul hx hb dX1_take_49 ?_
      refine lv_iconst (v := 1) hx hb dX1_take_50 (by decide) ?_
      refine lv_isub hx hb dX1_take_51 ?_
      refine lv_icmp_ge (tgt := 133) hx hb dX1_take_52 (by decide) (fun c_52 => ?_) (fun c_52 => ?_)
      · skip
        have hg9 : (w_45.1, w_45.2.1, w_45.2.2) = g_45 := by rw [← hL9]; simp only [LX1_take_45, if_pos c_52]
        subst hg9
        exact K_45_0 _ _ hP hD hS ls (lv_sub hl [0, 1, 2, 3, 4, 5, 6, 7] rfl)
      · skip
        refine lv_iload hx hb dX1_take_55 (lv_at hl 7 rfl) ?_
        refine lv_bipush (v := 32) hx hb dX1_take_57 (by decide) ?_
        refine lv_icmp_ge (tgt := 133) hx hb dX1_take_59 (by decide) (fun c_59 => ?_) (fun c_59 => ?_)
        · skip
          have hg9 : (w_45.1, w_45.2.1, w_45.2.2) = g_45 := by rw [← hL9]; simp only [LX1_take_45, if_neg c_52, if_pos c_59]
          subst hg9
          exact K_45_0 _ _ hP hD hS ls (lv_sub hl [0, 1, 2, 3, 4, 5, 6, 7] rfl)
        · skip
          refine lv_aload_n hx hb dX1_take_62 rfl (lv_at hl 1 rfl) ?_
          refine lv_iload hx hb dX1_take_63 (lv_at hl 4 rfl) ?_
          refine lv_iload hx hb dX1_take_65 (lv_at hl 7 rfl) ?_
          refine lv_iconst (v := 1) hx hb dX1_take_67 (by decide) ?_
          refine lv_iadd hx hb dX1_take_68 ?_
          refine lv_iconst (v := 2) hx hb dX1_take_69 (by decide) ?_
          refine lv_idiv hx hb dX1_take_70 (by decide) ?_
          refine lv_isub hx hb dX1_take_71 ?_
          have hPc : va_P D vwCl (wX6_get cI cB a_me a_by a_ks v_bF) H := hP.sub [0, 1] rfl
          have hDc : va_D A (wX6_get cI cB a_me a_by a_ks v_bF) := hD.sub [0, 1] (by decide) rfl
          have hFc := va_free (wc := (wX6_get cI cB a_me a_by a_ks v_bF)) hD hS hA [0, 1] rfl
          refine va_calli (va_runV (As := [.int ((x_5 - ((w_45.2.2 + 1) / 2)))]) (rest := []) ⟨hx, hb, hml, hown, hts⟩ (kX6_get l D cI cB a_me a_by a_ks H.size v_bF (x_5 - ((w_45.2.2 + 1) / 2))) (cwV 1 hts (gd_V wd_135 wd_109 wd_110 wd_78 wd_102) rfl rfl rfl hdX6_get ⟨Nat.le_of_ble_eq_true rfl, Nat.le_of_ble_eq_true rfl⟩) (preV_std (ci := 6) (q0 := 0) hPc hK hDc hNW rfl rfl) rfl rfl hl.1 rfl (lv_room (Nat.le_of_ble_eq_true rfl)) dX1_take_72 ⟨Nat.zero_le _, Nat.zero_le _⟩) hS (fun q _ h => hFc q h) hFc (fun r_72 u_72 t9 H1 locs ht9 hvm9 hw9 hB9 hz9 hk9 hS => ?_)
          have er_72 : r_72 = fX6_get (x_5 - ((w_45.2.2 + 1) / 2)) v_bF := hw9
          obtain ⟨hP, hD⟩ := back_std (w1 := (wX6_get cI cB a_me a_by a_ks v_bF)) (w2 := (wX1_take cI cB a_me a_by a_ks a_d a_dg v_bF r_28 w_45.1)) (wr := [(a_d, .inr (1, [.ref a_dg, .int r_28])), (a_dg, .inl (cI, 32, .inl w_45.1))]) hP hD [0, 1] [2, 3] [2, 3, 0, 1] rfl rfl (by decide) (by decide) hk9 hFc hB9 ht9 (by decide) rfl
          clear hB9 hk9 hz9 hvm9 ht9 hFc hPc hDc
          generalize H1 = H at hP hS ⊢
          refine lv_istore (lv' := [(8, .int r_72), (0, .ref a_d), (1, .ref a_me), (2, .int x1), (3, .int x2), (4, .int x_5), (5, .int x_16), (6, .int w_45.2.1), (7, .int w_45.2.2)]) hx hb dX1_take_75 hl (by decide) rfl (fun ls hl => ?_)
          refine lv_aload_n hx hb dX1_take_77 rfl (lv_at hl 1 rfl) ?_
          refine va_get (D := D) (ci := 1) (v := .ref a_dg) (C := RX1) (T := TX1) (N := 2) hx hb hts in_X1 hown hK hP 2 rfl rfl 0 (by decide) q_1 (fun _ h9 => h9) rfl dX1_take_78 ?_
          refine lv_iload hx hb dX1_take_81 (lv_at hl 8 rfl) ?_
          refine lv_iload hx hb dX1_take_83 (lv_at hl 8 rfl) ?_
          refine lv_iconst (v := 2) hx hb dX1_take_85 (by decide) ?_
          refine lv_irem hx hb dX1_take_86 (by decide) ?_
          have J_102 : ∀ (m_102 : Int32), m_102 = (if (w_45.2.2 - w_45.2.2 / 2 * 2) = 0 then ((r_72 >>> (4 &&& 31))) else ((r_72 &&& 15))) → ∀ (H : Heap) (locs : List Loc), va_P D vwCl (wX1_take cI cB a_me a_by a_ks a_d a_dg v_bF r_28 w_45.1) H → va_D A (wX1_take cI cB a_me a_by a_ks a_d a_dg v_bF r_28 w_45.1) → va_S A s.heap H locs → ∀ (ls : Array Slot), lv_has ls 9 [(0, .ref a_d), (1, .ref a_me), (2, .int x1), (3, .int x2), (4, .int x_5), (5, .int x_16), (6, .int w_45.2.1), (7, .int w_45.2.2), (8, .int r_72)] → W p l e rmX1_take s m ([.ref a_d, .ref a_me, .int x1, .int x2] : List Value).toArray below meth c H locs 0 0 (MQ below (qX1_take D cI cB a_me a_by a_ks a_d a_dg v_bF v_below v_dF x1 x2 A) ([.ref a_d, .ref a_me, .int x1, .int x2] : List Value).toArray s 0 0 A) (F0 m 102 ls [.int m_102, .int w_45.2.2, .ref a_dg]) := by
            intro m_102 em_102 H locs hP hD hS ls hl
            refine va_iast hx hb hK hP hD hS 3 0 rfl rfl (by first | assumption | exact vin_of (b := 32) (by decide) hI9 (by assumption) | exact vin_of (b := 32) (by decide) (by assumption) (by assumption) | exact vin_of (b := 32) (by decide) (Int32.not_lt.mp (by assumption)) (by assumption) | exact vin_dn (by decide) (by assumption) hI9) dX1_take_102 (fun H locs hP hD hS => ?_)
            obtain ⟨f_102, ef_102⟩ : ∃ z : Nat → Int32, z = upd w_45.1 (w_45.2.2 : Int32).toNatClampNeg (m_102) := ⟨_, rfl⟩
            have hP : va_P D vwCl (wX1_take cI cB a_me a_by a_ks a_d a_dg v_bF r_28 (upd w_45.1 (w_45.2.2 : Int32).toNatClampNeg (m_102))) H := hP
            have hD : va_D A (wX1_take cI cB a_me a_by a_ks a_d a_dg v_bF r_28 (upd w_45.1 (w_45.2.2 : Int32).toNatClampNeg (m_102))) := hD
            rw [← ef_102] at hP hD
            refine lv_iload hx hb dX1_take_103 (lv_at hl 6 rfl) ?_
            have J_125 : ∀ (m_125 : Int32), m_125 = (if w_45.2.1 = 0 then (0) else (if 9 < (f_102 (w_45.2.2 : Int32).toNatClampNeg) then (0) else (1))) → ∀ (H : Heap) (locs : List Loc), va_P D vwCl (wX1_take cI cB a_me a_by a_ks a_d a_dg v_bF r_28 f_102) H → va_D A (wX1_take cI cB a_me a_by a_ks a_d a_dg v_bF r_28 f_102) → va_S A s.heap H locs → ∀ (ls : Array Slot), lv_has ls 9 [(0, .ref a_d), (1, .ref a_me), (2, .int x1), (3, .int x2), (4, .int x_5), (5, .int x_16), (6, .int w_45.2.1), (7, .int w_45.2.2), (8, .int r_72)] → W p l e rmX1_take s m ([.ref a_d, .ref a_me, .int x1, .int x2] : List Value).toArray below meth c H locs 0 0 (MQ below (qX1_take D cI cB a_me a_by a_ks a_d a_dg v_bF v_below v_dF x1 x2 A) ([.ref a_d, .ref a_me, .int x1, .int x2] : List Value).toArray s 0 0 A) (F0 m 125 ls [.int m_125]) := by
              intro m_125 em_125 H locs hP hD hS ls hl
              have zm_125_0 : m_125 = 0 ∨ m_125 = 1 := by rw [em_125]; (repeat' split) <;> first | exact Or.inl rfl | exact Or.inr rfl
              refine lv_istore (lv' := [(6, .int m_125), (0, .ref a_d), (1, .ref a_me), (2, .int x1), (3, .int x2), (4, .int x_5), (5, .int x_16), (7, .int w_45.2.2), (8, .int r_72)]) hx hb dX1_take_125 hl (by decide) rfl (fun ls hl => ?_)
              obtain ⟨x_127, ex_127⟩ : ∃ z : Int32, z = w_45.2.2 + 1 := ⟨_, rfl⟩
              refine lv_iinc (v := x_127) (lv' := [(7, .int x_127), (6, .int m_125), (0, .ref a_d), (1, .ref a_me), (2, .int x1), (3, .int x2), (4, .int x_5), (5, .int x_16), (8, .int r_72)]) hx hb dX1_take_127 hl (k := 7) rfl (by rw [ex_127]; rfl) (by decide) rfl (fun ls hl => ?_)
              refine lv_goto (tgt := 45) hx hb dX1_take_130 (by decide) ?_
              exact ih (f_102, m_125, x_127) (by subst ex_127; subst em_125; subst ef_102; subst em_102; subst er_72;  exact Nat.lt_of_lt_of_le (ms_up c_52) (Nat.le_of_lt_succ hm9)) (by subst ex_127; subst em_125; subst ef_102; subst em_102; subst er_72;  exact nn_up hI9 c_52) (by rw [← hL9]; subst ex_127; subst em_125; subst ef_102; subst em_102; subst er_72; simp only [LX1_take_45, if_neg c_52, if_neg c_59]) _ _ hP hD hS ls (lv_sub hl [2, 3, 4, 5, 6, 7, 1, 0] rfl)
            refine lv_if_eq (tgt := 124) hx hb dX1_take_105 (by decide) (fun c_105 => ?_) (fun c_105 => ?_)
            · skip
              refine lv_iconst (v := 0) hx hb dX1_take_124 (by decide) ?_
              exact J_125 _ (by simp only [if_pos c_105]) _ _ hP hD hS ls (lv_sub hl [0, 1, 2, 3, 4, 5, 6, 7, 8] rfl)
            · skip
              refine lv_aload_n hx hb dX1_take_108 rfl (lv_at hl 0 rfl) ?_
              refine va_get (D := D) (ci := 1) (v := .ref a_dg) (C := RX1) (T := TX1) (N := 2) hx hb hts in_X1 hown hK hP 2 rfl rfl 0 (by decide) q_1 (fun _ h9 => h9) rfl dX1_take_109 ?_
              refine lv_iload hx hb dX1_take_112 (lv_at hl 7 rfl) ?_
              refine va_iald hx hb hK hP 3 0 rfl rfl (by first | assumption | exact vin_of (b := 32) (by decide) hI9 (by assumption) | exact vin_of (b := 32) (by decide) (by assumption) (by assumption) | exact vin_of (b := 32) (by decide) (Int32.not_lt.mp (by assumption)) (by assumption) | exact vin_dn (by decide) (by assumption) hI9) dX1_take_114 ?_
              refine lv_bipush (v := 9) hx hb dX1_take_115 (by decide) ?_
              refine lv_icmp_gt (tgt := 124) hx hb dX1_take_117 (by decide) (fun c_117 => ?_) (fun c_117 => ?_)
              · skip
                refine lv_iconst (v := 0) hx hb dX1_take_124 (by decide) ?_
                exact J_125 _ (by simp only [if_neg c_105, if_pos c_117]) _ _ hP hD hS ls (lv_sub hl [0, 1, 2, 3, 4, 5, 6, 7, 8] rfl)
              · skip
                refine lv_iconst (v := 1) hx hb dX1_take_120 (by decide) ?_
                refine lv_goto (tgt := 125) hx hb dX1_take_121 (by decide) ?_
                exact J_125 _ (by simp only [if_neg c_105, if_neg c_117]) _ _ hP hD hS ls (lv_sub hl [0, 1, 2, 3, 4, 5, 6, 7, 8] rfl)
          refine lv_if_ne (tgt := 97) hx hb dX1_take_87 (by decide) (fun c_87 => ?_) (fun c_87 => ?_)
          · skip
            refine lv_iload hx hb dX1_take_97 (lv_at hl 0 rfl) ?_
            refine lv_bipush (v := 15) hx hb dX1_take_99 (by decide) ?_
            refine lv_iand hx hb dX1_take_101 ?_
            exact J_102 _ (by simp only [if_neg c_87]) _ _ hP hD hS ls (lv_sub hl [1, 2, 3, 4, 5, 6, 7, 8, 0] rfl)
          · skip
            refine lv_iload hx hb dX1_take_90 (lv_at hl 0 rfl) ?_
            refine lv_iconst (v := 4) hx hb dX1_take_92 (by decide) ?_
            refine lv_ishr hx hb dX1_take_93 ?_
            refine lv_goto (tgt := 102) hx hb dX1_take_94 (by decide) ?_
            exact J_102 _ (by simp only [if_pos c_87]) _ _ hP hD hS ls (lv_sub hl [1, 2, 3, 4, 5, 6, 7, 8, 0] rfl)
  exact lp_45 (((((2 * x2) - 1) : Int32).toInt - (0 : Int32).toInt).toNat + 1) (u_39, r_20, 0) (Nat.lt_succ_self _) (by decide) eg_45.symm _ _ hP hD hS ls (lv_sub hl [4, 5, 6, 7, 3, 2, 1, 0] rfl)
theorem hdX1_take : yX1_take.cls = RX1 ∧ yX1_take.cls ≠ "java/lang/invoke/MethodHandle" ∧ yX1_take.cls ≠ "java/lang/invoke/VarHandle" ∧ (parseMethodDescriptor yX1_take.desc).map (fun d => d.parameters.length) = some 3 := by decide +kernel
def LX1_give_38 (x2 : Int32) (v_dF : (Nat → Int32)) : Nat → ((Nat → Int32) × Int32) → ((Nat → Int32) × Int32)
  | 0, w_38 => w_38
  | n9 + 1, w_38 =>
    if x2 ≤ w_38.2 then ((w_38.1, w_38.2)) else (let r_55 := fX1_digit (2 * w_38.2) v_dF; let r_67 := fX1_digit ((2 * w_38.2) - 1) v_dF; let u_71 := fX6_set (x_5 - w_38.2) ((r_55 <<< (4 &&& 31)) ||| r_67) w_38.1; let x_74 := w_38.2 + 1; LX1_give_38 x2 v_dF n9 (u_71, x_74))
def fX1_give (x1 : Int32) (x2 : Int32) (v_bF : (Nat → Int32)) (v_below : Int32) (v_dF : (Nat → Int32)) : (Nat → Int32) :=
  let x_5 := ((x1 + x2) - 1)
  let r_12 := fX1_digit 0 v_dF
  let m_31 : Int32 := (if v_below = 0 then (12) else (13))
  let u_32 := fX6_set x_5 ((r_12 <<< (4 &&& 31)) ||| m_31) v_bF
  let g_38 := LX1_give_38 x2 v_dF (((x2 : Int32).toInt - (1 : Int32).toInt).toNat + 1) (u_32, 1)
  g_38.1
abbrev wX1_give (cI cB : ClassId) (a_me a_by a_ks a_d a_dg : Nat) (v_bF : (Nat → Int32)) (v_below : Int32) (v_dF : (Nat → Int32)) : va_W := [(a_me, .inr (6, [.ref a_by, .ref a_ks])), (a_by, .inl (cB, 8192, .inl v_bF)), (a_d, .inr (1, [.ref a_dg, .int v_below])), (a_dg, .inl (cI, 32, .inl v_dF))]
abbrev rmX1_give : Room := { frames := 1, cells := 0, slots := 0, locals := 22 }
abbrev qX1_give (D : va_G) (cI cB : ClassId) (a_me a_by a_ks a_d a_dg : Nat) (v_bF : (Nat → Int32)) (v_below : Int32) (v_dF : (Nat → Int32)) (x1 : Int32) (x2 : Int32) : (Nat → Prop) → Array Value → State → Outcome → State → Prop := fun A9 => va_Qv (fun (u9 : (Nat → Int32)) => u9 = fX1_give x1 x2 v_bF v_below v_dF) (fun u9 t9 => atW D (TYS cI cB) A9 (wX1_give cI cB a_me a_by a_ks a_d a_dg u9 v_below v_dF) t9) A9
set_option maxHeartbeats 4000000 in
set_option maxRecDepth 100000 in
theorem kX1_give (l : Launch) (D : va_G) (cI cB : ClassId) (a_me a_by a_ks a_d a_dg : Nat) (sz : Nat) (v_bF : (Nat → Int32)) (v_below : Int32) (v_dF : (Nat → Int32)) (x1 : Int32) (x2 : Int32) : MetW l yX1_give (WK yX1_give cX1_give 6 none) rmX1_give D (TYS cI cB) (wX1_give cI cB a_me a_by a_ks a_d a_dg v_bF v_below v_dF) sz [.ref a_d, .ref a_me, .int x1, .int x2] (qX1_give D cI cB a_me a_by a_ks a_d a_dg v_bF v_below v_dF x1 x2) 0 0 := by
  refine met_std (by decide) rfl (Nat.le_of_ble_eq_true rfl) ?_
  intro p e s m below meth c A ls H hx hb hr hml hown hts hlocks hA hP hK hD hS hNW hl
  have hl : lv_has ls 6 [(0, .ref a_d), (1, .ref a_me), (2, .int x1), (3, .int x2)] := hl
  have q_0 := hts _ (List.mem_cons_of_mem _ wd_134)
  refine lv_iload_n hx hb dX1_give_0 rfl (lv_at hl 2 rfl) ?_
  refine lv_iload_n hx hb dX1_give_1 rfl (lv_at hl 3 rfl) ?_
  refine lv_iadd hx hb dX1_give_2 ?_
  refine lv_iconst (v := 1) hx hb dX1_give_3 (by decide) ?_
  refine lv_isub hx hb dX1_give_4 ?_
  refine lv_topi (fun x_5 ex_5 => ?_)
  refine lv_istore (lv' := [(4, .int x_5), (0, .ref a_d), (1, .ref a_me), (2, .int x1), (3, .int x2)]) hx hb dX1_give_5 hl (by decide) rfl (fun ls hl => ?_)
  refine lv_aload_n hx hb dX1_give_7 rfl (lv_at hl 2 rfl) ?_
  refine lv_iload hx hb dX1_give_8 (lv_at hl 0 rfl) ?_
  refine lv_aload_n hx hb dX1_give_10 rfl (lv_at hl 1 rfl) ?_
  refine lv_iconst (v := 0) hx hb dX1_give_11 (by decide) ?_
  have hPc : va_P D vwCl (wX1_digit cI cB a_d a_dg v_below v_dF) H := hP.sub [2, 3] rfl
  have hDc : va_D A (wX1_digit cI cB a_d a_dg v_below v_dF) := hD.sub [2, 3] (by decide) rfl
  have hFc := va_free (wc := (wX1_digit cI cB a_d a_dg v_below v_dF)) hD hS hA [2, 3] rfl
  refine va_calli (va_runV (As := [.int 0]) (rest := [.int x_5, .ref a_me]) ⟨hx, hb, hml, hown, hts⟩ (kX1_digit l D cI cB a_d a_dg H.size v_below v_dF 0) (cwV 1 hts (gd_V wd_147 wd_148 wd_149 wd_138 wd_144) rfl rfl rfl hdX1_digit ⟨Nat.le_of_ble_eq_true rfl, Nat.le_of_ble_eq_true rfl⟩) (preV_std (ci := 1) (q0 := 0) hPc hK hDc hNW rfl rfl) rfl rfl hl.1 rfl (lv_room (Nat.le_of_ble_eq_true rfl)) dX1_give_12 ⟨Nat.zero_le _, Nat.zero_le _⟩) hS (fun q _ h => hFc q h) hFc (fun r_12 u_12 t9 H1 locs ht9 hvm9 hw9 hB9 hz9 hk9 hS => ?_)
  have er_12 : r_12 = fX1_digit 0 v_dF := hw9
  obtain ⟨hP, hD⟩ := back_std (w1 := (wX1_digit cI cB a_d a_dg v_below v_dF)) (w2 := (wX1_give cI cB a_me a_by a_ks a_d a_dg v_bF v_below v_dF)) (wr := [(a_me, .inr (6, [.ref a_by, .ref a_ks])), (a_by, .inl (cB, 8192, .inl v_bF))]) hP hD [2, 3] [0, 1] [0, 1, 2, 3] rfl rfl (by decide) (by decide) hk9 hFc hB9 ht9 (by decide) rfl
  clear hB9 hk9 hz9 hvm9 ht9 hFc hPc hDc
  generalize H1 = H at hP hS ⊢
  refine lv_iconst (v := 4) hx hb dX1_give_15 (by decide) ?_
  refine lv_ishl hx hb dX1_give_16 ?_
  refine lv_aload_n hx hb dX1_give_17 rfl (lv_at hl 1 rfl) ?_
  refine va_get (D := D) (ci := 1) (v := .int v_below) (C := RX1) (T := TX1) (N := 2) hx hb hts in_X1 hown hK hP 2 rfl rfl 1 (by decide) q_0 (fun _ h9 => h9) rfl dX1_give_18 ?_
  have J_31 : ∀ (m_31 : Int32), m_31 = (if v_below = 0 then (12) else (13)) → ∀ (H : Heap) (locs : List Loc), va_P D vwCl (wX1_give cI cB a_me a_by a_ks a_d a_dg v_bF v_below v_dF) H → va_D A (wX1_give cI cB a_me a_by a_ks a_d a_dg v_bF v_below v_dF) → va_S A s.heap H locs → ∀ (ls : Array Slot), lv_has ls 6 [(0, .ref a_d), (1, .ref a_me), (2, .int x1), (3, .int x2), (4, .int x_5)] → W p l e rmX1_give s m ([.ref a_d, .ref a_me, .int x1, .int x2] : List Value).toArray below meth c H locs 0 0 (MQ below (qX1_give D cI cB a_me a_by a_ks a_d a_dg v_bF v_below v_dF x1 x2 A) ([.ref a_d, .ref a_me, .int x1, .int x2] : List Value).toArray s 0 0 A) (F0 m 31 ls [.int m_31, .int ((r_12 <<< (4 &&& 31))), .int x_5, .ref a_me]) := by
    intro m_31 em_31 H locs hP hD hS ls hl
    refine lv_ior hx hb dX1_give_31 ?_
    have hPc : va_P D vwCl (wX6_set cI cB a_me a_by a_ks v_bF) H := hP.sub [0, 1] rfl
    have hDc : va_D A (wX6_set cI cB a_me a_by a_ks v_bF) := hD.sub [0, 1] (by decide) rfl
    have hFc := va_free (wc := (wX6_set cI cB a_me a_by a_ks v_bF)) hD hS hA [0, 1] rfl
    refine va_callv (va_runV (As := [.int x_5, .int (((r_12 <<< (4 &&& 31)) ||| m_31))]) (rest := []) ⟨hx, hb, hml, hown, hts⟩ (kX6_set l D cI cB a_me a_by a_ks H.size v_bF x_5 ((r_12 <<< (4 &&& 31)) ||| m_31)) (cwV 2 hts (gd_V wd_150 wd_151 wd_152 wd_78 wd_145) rfl rfl rfl hdX6_set ⟨Nat.le_of_ble_eq_true rfl, Nat.le_of_ble_eq_true rfl⟩) (preV_std (ci := 6) (q0 := 0) hPc hK hDc hNW rfl rfl) rfl rfl hl.1 rfl (lv_room (Nat.le_of_ble_eq_true rfl)) dX1_give_32 ⟨Nat.zero_le _, Nat.zero_le _⟩) hS (fun q _ h => hFc q h) hFc (fun u_32 t9 H1 locs ht9 hvm9 hw9 hB9 hz9 hk9 hS => ?_)
    have eu_32 : u_32 = fX6_set x_5 ((r_12 <<< (4 &&& 31)) ||| m_31) v_bF := hw9
    obtain ⟨hP, hD⟩ := back_std (w1 := (wX6_set cI cB a_me a_by a_ks u_32)) (w2 := (wX1_give cI cB a_me a_by a_ks a_d a_dg u_32 v_below v_dF)) (wr := [(a_d, .inr (1, [.ref a_dg, .int v_below])), (a_dg, .inl (cI, 32, .inl v_dF))]) hP hD [0, 1] [2, 3] [2, 3, 0, 1] rfl rfl (by decide) (by decide) hk9 hFc hB9 ht9 (by decide) rfl
    clear hB9 hk9 hz9 hvm9 ht9 hFc hPc hDc
    generalize H1 = H at hP hS ⊢
    refine lv_iconst (v := 1) hx hb dX1_give_35 (by decide) ?_
    refine lv_istore (lv' := [(5, .int 1), (0, .ref a_d), (1, .ref a_me), (2, .int x1), (3, .int x2), (4, .int x_5)]) hx hb dX1_give_36 hl (by decide) rfl (fun ls hl => ?_)
    obtain ⟨g_38, eg_38⟩ : ∃ z : ((Nat → Int32) × Int32), z = LX1_give_38 x2 v_dF (((x2 : Int32).toInt - (1 : Int32).toInt).toNat + 1) (u_32, 1) := ⟨_, rfl⟩
    have K_38_0 : ∀ (H : Heap) (locs : List Loc), va_P D vwCl (wX1_give cI cB a_me a_by a_ks a_d a_dg g_38.1 v_below v_dF) H → va_D A (wX1_give cI cB a_me a_by a_ks a_d a_dg g_38.1 v_below v_dF) → va_S A s.heap H locs → ∀ (ls : Array Slot), lv_has ls 6 [(0, .ref a_d), (1, .ref a_me), (2, .int x1), (3, .int x2), (4, .int x_5), (5, .int g_38.2)] → W p l e rmX1_give s m ([.ref a_d, .ref a_me, .int x1, .int x2] : List Value).toArray below meth c H locs 0 0 (MQ below (qX1_give D cI cB a_me a_by a_ks a_d a_dg v_bF v_below v_dF x1 x2 A) ([.ref a_d, .ref a_me, .int x1, .int x2] : List Value).toArray s 0 0 A) (F0 m 80 ls []) := by
      intro H locs hP hD hS ls hl
      have hf9 : g_38.1 = fX1_give x1 x2 v_bF v_below v_dF := by subst eg_38; subst eu_32; subst em_31; subst er_12; subst ex_5; simp only [fX1_give]
      exact W.vret hx hb hr (fun t9 ht9 hW9 => ⟨⟨g_38.1, rfl, hf9, ⟨by rw [ht9]; exact hP, va_K.moved hW9.alike hK, hD⟩⟩, hS.F ht9⟩) hS.2.2 dX1_give_80
    have lp_38 : ∀ (n9 : Nat) (w_38 : ((Nat → Int32) × Int32)), ((x2 : Int32).toInt - (w_38.2 : Int32).toInt).toNat < n9 → LX1_give_38 x2 v_dF n9 w_38 = g_38 → ∀ (H : Heap) (locs : List Loc), va_P D vwCl (wX1_give cI cB a_me a_by a_ks a_d a_dg w_38.1 v_below v_dF) H → va_D A (wX1_give cI cB a_me a_by a_ks a_d a_dg w_38.1 v_below v_dF) → va_S A s.heap H locs → ∀ (ls : Array Slot), lv_has ls 6 [(0, .ref a_d), (1, .ref a_me), (2, .int x1), (3, .int x2), (4, .int x_5), (5, .int w_38.2)] → W p l e rmX1_give s m ([.ref a_d, .ref a_me, .int x1, .int x2] : List Value).toArray below meth c H locs 0 0 (MQ below (qX1_give D cI cB a_me a_by a_ks a_d a_dg v_bF v_below v_dF x1 x2 A) ([.ref a_d, .ref a_me, .int x1, .int x2] : List Value).toArray s 0 0 A) (F0 m 38 ls []) := by
      intro n9
      induction n9 with
      | zero => intro w_38 hm9; exact absurd hm9 (Nat.not_lt_zero _)
      | succ n9 ih =>
        intro w_38 hm9 hL9 H locs hP hD hS ls hl
        refine lv_iload hx hb dX1_give_38 (lv_at hl 5 rfl) ?_
        refine lv_iload_n hx hb dX1_give_40 rfl (lv_at hl 3 rfl) ?_
        refine lv_icmp_ge (tgt := 80) hx hb dX1_give_41 (by decide) (fun c_41 => ?_) (fun c_41 => ?_)
        · skip
          have hg9 : (w_38.1, w_38.2) = g_38 := by rw [← hL9]; simp only [LX1_give_38, if_pos c_41]
          subst hg9
          exact K_38_0 _ _ hP hD hS ls (lv_sub hl [0, 1, 2, 3, 4, 5] rfl)
        · skip
          refine lv_aload_n hx hb dX1_give_44 rfl (lv_at hl 1 rfl) ?_
          refine lv_iload hx hb dX1_give_45 (lv_at hl 4 rfl) ?_
          refine lv_iload hx hb dX1_give_47 (lv_at hl 5 rfl) ?_
          refine lv_isub hx hb dX1_give_49 ?_
          refine lv_aload_n hx hb dX1_give_50 rfl (lv_at hl 0 rfl) ?_
          refine lv_iconst (v := 2) hx hb dX1_give_51 (by decide) ?_
          refine lv_iload hx hb dX1_give_52 (lv_at hl 5 rfl) ?_
          refine lv_imul hx hb dX1_give_54 ?_
          have hPc : va_P D vwCl (wX1_digit cI cB a_d a_dg v_below v_dF) H := hP.sub [2, 3] rfl
          have hDc : va_D A (wX1_digit cI cB a_d a_dg v_below v_dF) := hD.sub [2, 3] (by decide) rfl
          have hFc := va_free (wc := (wX1_digit cI cB a_d a_dg v_below v_dF)) hD hS hA [2, 3] rfl
          refine va_calli (va_runV (As := [.int (2 * w_38.2)]) (rest := [.int (x_5 - w_38.2), .ref a_me]) ⟨hx, hb, hml, hown, hts⟩ (kX1_digit l D cI cB a_d a_dg H.size v_below v_dF (2 * w_38.2)) (cwV 1 hts (gd_V wd_147 wd_148 wd_149 wd_138 wd_144) rfl rfl rfl hdX1_digit ⟨Nat.le_of_ble_eq_true rfl, Nat.le_of_ble_eq_true rfl⟩) (preV_std (ci := 1) (q0 := 0) hPc hK hDc hNW rfl rfl) rfl rfl hl.1 rfl (lv_room (Nat.le_of_ble_eq_true rfl)) dX1_give_55 ⟨Nat.zero_le _, Nat.zero_le _⟩) hS (fun q _ h => hFc q h) hFc (fun r_55 u_55 t9 H1 locs ht9 hvm9 hw9 hB9 hz9 hk9 hS => ?_)
          have er_55 : r_55 = fX1_digit (2 * w_38.2) v_dF := hw9
          obtain ⟨hP, hD⟩ := back_std (w1 := (wX1_digit cI cB a_d a_dg v_below v_dF)) (w2 := (wX1_give cI cB a_me a_by a_ks a_d a_dg w_38.1 v_below v_dF)) (wr := [(a_me, .inr (6, [.ref a_by, .ref a_ks])), (a_by, .inl (cB, 8192, .inl w_38.1))]) hP hD [2, 3] [0, 1] [0, 1, 2, 3] rfl rfl (by decide) (by decide) hk9 hFc hB9 ht9 (by decide) rfl
          clear hB9 hk9 hz9 hvm9 ht9 hFc hPc hDc
          generalize H1 = H at hP hS ⊢
          refine lv_iconst (v := 4) hx hb dX1_give_58 (by decide) ?_
          refine lv_ishl hx hb dX1_give_59 ?_
          refine lv_aload_n hx hb dX1_give_60 rfl (lv_at hl 0 rfl) ?_
          refine lv_iconst (v := 2) hx hb dX1_give_61 (by decide) ?_
          refine lv_iload hx hb dX1_give_62 (lv_at hl 5 rfl) ?_
          refine lv_imul hx hb dX1_give_64 ?_
          refine lv_iconst (v := 1) hx hb dX1_give_65 (by decide) ?_
          refine lv_isub hx hb dX1_give_66 ?_
          have hPc : va_P D vwCl (wX1_digit cI cB a_d a_dg v_below v_dF) H := hP.sub [2, 3] rfl
          have hDc : va_D A (wX1_digit cI cB a_d a_dg v_below v_dF) := hD.sub [2, 3] (by decide) rfl
          have hFc := va_free (wc := (wX1_digit cI cB a_d a_dg v_below v_dF)) hD hS hA [2, 3] rfl
          refine va_calli (va_runV (As := [.int (((2 * w_38.2) - 1))]) (rest := [.int ((r_55 <<< (4 &&& 31))), .int (x_5 - w_38.2), .ref a_me]) ⟨hx, hb, hml, hown, hts⟩ (kX1_digit l D cI cB a_d a_dg H.size v_below v_dF ((2 * w_38.2) - 1)) (cwV 1 hts (gd_V wd_147 wd_148 wd_149 wd_138 wd_144) rfl rfl rfl hdX1_digit ⟨Nat.le_of_ble_eq_true rfl, Nat.le_of_ble_eq_true rfl⟩) (preV_std (ci := 1) (q0 := 0) hPc hK hDc hNW rfl rfl) rfl rfl hl.1 rfl (lv_room (Nat.le_of_ble_eq_true rfl)) dX1_give_67 ⟨Nat.zero_le _, Nat.zero_le _⟩) hS (fun q _ h => hFc q h) hFc (fun r_67 u_67 t9 H1 locs ht9 hvm9 hw9 hB9 hz9 hk9 hS => ?_)
          have er_67 : r_67 = fX1_digit ((2 * w_38.2) - 1) v_dF := hw9
          obtain ⟨hP, hD⟩ := back_std (w1 := (wX1_digit cI cB a_d a_dg v_below v_dF)) (w2 := (wX1_give cI cB a_me a_by a_ks a_d a_dg w_38.1 v_below v_dF)) (wr := [(a_me, .inr (6, [.ref a_by, .ref a_ks])), (a_by, .inl (cB, 8192, .inl w_38.1))]) hP hD [2, 3] [0, 1] [0, 1, 2, 3] rfl rfl (by decide) (by decide) hk9 hFc hB9 ht9 (by decide) rfl
          clear hB9 hk9 hz9 hvm9 ht9 hFc hPc hDc
          generalize H1 = H at hP hS ⊢
          refine lv_ior hx hb dX1_give_70 ?_
          have hPc : va_P D vwCl (wX6_set cI cB a_me a_by a_ks w_38.1) H := hP.sub [0, 1] rfl
          have hDc : va_D A (wX6_set cI cB a_me a_by a_ks w_38.1) := hD.sub [0, 1] (by decide) rfl
          have hFc := va_free (wc := (wX6_set cI cB a_me a_by a_ks w_38.1)) hD hS hA [0, 1] rfl
          refine va_callv (va_runV (As := [.int (x_5 - w_38.2), .int (((r_55 <<< (4 &&& 31)) ||| r_67))]) (rest := []) ⟨hx, hb, hml, hown, hts⟩ (kX6_set l D cI cB a_me a_by a_ks H.size w_38.1 (x_5 - w_38.2) ((r_55 <<< (4 &&& 31)) ||| r_67)) (cwV 2 hts (gd_V wd_150 wd_151 wd_152 wd_78 wd_145) rfl rfl rfl hdX6_set ⟨Nat.le_of_ble_eq_true rfl, Nat.le_of_ble_eq_true rfl⟩) (preV_std (ci := 6) (q0 := 0) hPc hK hDc hNW rfl rfl) rfl rfl hl.1 rfl (lv_room (Nat.le_of_ble_eq_true rfl)) dX1_give_71 ⟨Nat.zero_le _, Nat.zero_le _⟩) hS (fun q _ h => hFc q h) hFc (fun u_71 t9 H1 locs ht9 hvm9 hw9 hB9 hz9 hk9 hS => ?_)
          have eu_71 : u_71 = fX6_set (x_5 - w_38.2) ((r_55 <<< (4 &&& 31)) ||| r_67) w_38.1 := hw9
          obtain ⟨hP, hD⟩ := back_std (w1 := (wX6_set cI cB a_me a_by a_ks u_71)) (w2 := (wX1_give cI cB a_me a_by a_ks a_d a_dg u_71 v_below v_dF)) (wr := [(a_d, .inr (1, [.ref a_dg, .int v_below])), (a_dg, .inl (cI, 32, .inl v_dF))]) hP hD [0, 1] [2, 3] [2, 3, 0, 1] rfl rfl (by decide) (by decide) hk9 hFc hB9 ht9 (by decide) rfl
          clear hB9 hk9 hz9 hvm9 ht9 hFc hPc hDc
          generalize H1 = H at hP hS ⊢
          obtain ⟨x_74, ex_74⟩ : ∃ z : Int32, z = w_38.2 + 1 := ⟨_, rfl⟩
          refine lv_iinc (v := x_74) (lv' := [(5, .int x_74), (0, .ref a_d), (1, .ref a_me), (2, .int x1), (3, .int x2), (4, .int x_5)]) hx hb dX1_give_74 hl (k := 5) rfl (by rw [ex_74]; rfl) (by decide) rfl (fun ls hl => ?_)
          refine lv_goto (tgt := 38) hx hb dX1_give_77 (by decide) ?_
          exact ih (u_71, x_74) (by subst ex_74; subst eu_71; subst er_67; subst er_55;  exact Nat.lt_of_lt_of_le (ms_up c_41) (Nat.le_of_lt_succ hm9)) (by rw [← hL9]; subst ex_74; subst eu_71; subst er_67; subst er_55; simp only [LX1_give_38, if_neg c_41]) _ _ hP hD hS ls (lv_sub hl [1, 2, 3, 4, 5, 0] rfl)
    exact lp_38 (((x2 : Int32).toInt - (1 : Int32).toInt).toNat + 1) (u_32, 1) (Nat.lt_succ_self _) eg_38.symm _ _ hP hD hS ls (lv_sub hl [1, 2, 3, 4, 5, 0] rfl)
  refine lv_if_eq (tgt := 29) hx hb dX1_give_21 (by decide) (fun c_21 => ?_) (fun c_21 => ?_)
  · skip
    refine lv_bipush (v := 12) hx hb dX1_give_29 (by decide) ?_
    exact J_31 _ (by simp only [if_pos c_21]) _ _ hP hD hS ls (lv_sub hl [1, 2, 3, 4, 0] rfl)
  · skip
    refine lv_bipush (v := 13) hx hb dX1_give_24 (by decide) ?_
    refine lv_goto (tgt := 31) hx hb dX1_give_26 (by decide) ?_
    exact J_31 _ (by simp only [if_neg c_21]) _ _ hP hD hS ls (lv_sub hl [1, 2, 3, 4, 0] rfl)
theorem hdX1_give : yX1_give.cls = RX1 ∧ yX1_give.cls ≠ "java/lang/invoke/MethodHandle" ∧ yX1_give.cls ≠ "java/lang/invoke/VarHandle" ∧ (parseMethodDescriptor yX1_give.desc).map (fun d => d.parameters.length) = some 3 := by decide +kernel
