noncomputable def LJ7_fill_53178_5 (x1 : Int32) : Nat → ((Nat → Int32) × Int32) → ((Nat → Int32) × Int32)
  | 0, w_5 => w_5
  | n9 + 1, w_5 =>
    if 32 ≤ w_5.2 then ((w_5.1, w_5.2)) else (let f_13 := upd w_5.1 (w_5.2 : Int32).toNatClampNeg (x1); let x_14 := w_5.2 + 1; LJ7_fill_53178_5 x1 n9 (f_13, x_14))
noncomputable def fJ7_fill_53178 (x1 : Int32) (v_dF : (Nat → Int32)) : (Nat → Int32) :=
  let g_5 := LJ7_fill_53178_5 x1 (msU 32 0 + 1) (v_dF, 0)
  g_5.1
abbrev wJ7_fill_53178 (cI cB : ClassId) (a_dg : Nat) (v_dF : (Nat → Int32)) : va_W := [(a_dg, .inl (cI, 32, .inl v_dF))]
abbrev rmJ7_fill_53178 : Room := { frames := 0, cells := 0, slots := 0, locals := 0 }
abbrev qJ7_fill_53178 (D : va_G) (cI cB : ClassId) (a_dg : Nat) (v_dF : (Nat → Int32)) (x1 : Int32) : (Nat → Prop) → Array Value → State → Outcome → State → Prop := fun A9 => va_Qv (fun (u9 : (Nat → Int32)) => u9 = fJ7_fill_53178 x1 v_dF) (fun u9 t9 => atW D (TYS cI cB) A9 (wJ7_fill_53178 cI cB a_dg u9) t9) A9
set_option maxHeartbeats 4000000 in
set_option maxRecDepth 100000 in
theorem kJ7_fill_53178 (l : Launch) (D : va_G) (cI cB : ClassId) (a_dg : Nat) (sz : Nat) (v_dF : (Nat → Int32)) (x1 : Int32) : MetW l yJ7_fill_53178 (WK yJ7_fill_53178 cJ7_fill_53178 4 none) rmJ7_fill_53178 D (TYS cI cB) (wJ7_fill_53178 cI cB a_dg v_dF) sz [.ref a_dg, .int x1] (qJ7_fill_53178 D cI cB a_dg v_dF x1) 0 0 := by
  refine met_stdF (by decide +kernel) rfl (Nat.le_of_ble_eq_true rfl) ?_
  intro p e s m below meth c A ls H hx hb hr hml hown hts hlocks hA hP hK hD hS hNW hl
  have hl : lv_has ls 4 [(0, .ref a_dg), (1, .int x1)] := hl
  refine lv_iconst (v := 0) hx hb dJ7_fill_53178_0 (by decide) ?_
  refine lv_istore_n (lv' := [(2, .int 0), (0, .ref a_dg), (1, .int x1)]) hx hb dJ7_fill_53178_1 rfl hl (by decide) rfl (fun ls hl => ?_)
  refine lv_aload_n hx hb dJ7_fill_53178_2 rfl (lv_at hl 1 rfl) ?_
  refine va_alen (v := 32) hx hb hK hP 0 0 rfl rfl rfl dJ7_fill_53178_3 ?_
  refine lv_istore_n (lv' := [(3, .int 32), (2, .int 0), (0, .ref a_dg), (1, .int x1)]) hx hb dJ7_fill_53178_4 rfl hl (by decide) rfl (fun ls hl => ?_)
  obtain ⟨g_5, eg_5⟩ : ∃ z : ((Nat → Int32) × Int32), z = LJ7_fill_53178_5 x1 (msU 32 0 + 1) (v_dF, 0) := ⟨_, rfl⟩
  have K_5_0 : ∀ (H : Heap) (locs : List Loc), va_P D vwCl (wJ7_fill_53178 cI cB a_dg g_5.1) H → va_D A (wJ7_fill_53178 cI cB a_dg g_5.1) → va_S A s.heap H locs → ∀ (ls : Array Slot), lv_has ls 4 [(0, .ref a_dg), (1, .int x1), (2, .int g_5.2), (3, .int 32)] → W p l e rmJ7_fill_53178 s m ([.ref a_dg, .int x1] : List Value).toArray below meth c H locs 0 0 (MQ below (qJ7_fill_53178 D cI cB a_dg v_dF x1 A) ([.ref a_dg, .int x1] : List Value).toArray s 0 0 A) (F0 m 20 ls []) := by
    intro H locs hP hD hS ls hl
    have hf9 : g_5.1 = fJ7_fill_53178 x1 v_dF := by simp only [fJ7_fill_53178, ← eg_5]
    exact W.vret hx hb hr (fun t9 ht9 hW9 => ⟨⟨g_5.1, rfl, hf9, ⟨by rw [ht9]; exact hP, va_K.moved hW9.alike hK, hD⟩⟩, hS.F ht9⟩) hS.2.2 dJ7_fill_53178_20
  have lp_5 : ∀ (n9 : Nat) (w_5 : ((Nat → Int32) × Int32)), msU 32 w_5.2 < n9 → 0 ≤ w_5.2 → LJ7_fill_53178_5 x1 n9 w_5 = g_5 → ∀ (H : Heap) (locs : List Loc), va_P D vwCl (wJ7_fill_53178 cI cB a_dg w_5.1) H → va_D A (wJ7_fill_53178 cI cB a_dg w_5.1) → va_S A s.heap H locs → ∀ (ls : Array Slot), lv_has ls 4 [(0, .ref a_dg), (1, .int x1), (2, .int w_5.2), (3, .int 32)] → W p l e rmJ7_fill_53178 s m ([.ref a_dg, .int x1] : List Value).toArray below meth c H locs 0 0 (MQ below (qJ7_fill_53178 D cI cB a_dg v_dF x1 A) ([.ref a_dg, .int x1] : List Value).toArray s 0 0 A) (F0 m 5 ls []) := by
    intro n9
    induction n9 with
    | zero => intro w_5 hm9; exact absurd hm9 (Nat.not_lt_zero _)
    | succ n9 ih =>
      intro w_5 hm9 hI9 hL9 H locs hP hD hS ls hl
      have hI_5 := hI9
      refine lv_iload_n hx hb dJ7_fill_53178_5 rfl (lv_at hl 2 rfl) ?_
      refine lv_iload_n hx hb dJ7_fill_53178_6 rfl (lv_at hl 3 rfl) ?_
      refine lv_icmp_ge (tgt := 20) hx hb dJ7_fill_53178_7 (by decide) (fun c_7 => ?_) (fun c_7 => ?_)
      · skip
        have hg9 : (w_5.1, w_5.2) = g_5 := by rw [← hL9]; simp only [LJ7_fill_53178_5, if_pos c_7]
        subst hg9
        exact K_5_0 _ _ hP hD hS ls (lv_sub hl [0, 1, 2, 3] rfl)
      · skip
        refine lv_aload_n hx hb dJ7_fill_53178_10 rfl (lv_at hl 0 rfl) ?_
        refine lv_iload_n hx hb dJ7_fill_53178_11 rfl (lv_at hl 2 rfl) ?_
        refine lv_iload_n hx hb dJ7_fill_53178_12 rfl (lv_at hl 1 rfl) ?_
        refine va_iast hx hb hK hP hD hS 0 0 rfl rfl (by first | with_reducible assumption | exact vin_of (b := 32) (by decide) (by with_reducible assumption) (by with_reducible assumption) | exact vin_of (b := 32) (by decide) (Int32.not_lt.mp (by with_reducible assumption)) (by with_reducible assumption) | exact vin_dn (by decide) (by with_reducible assumption) hI9) dJ7_fill_53178_13 (fun H locs hP hD hS => ?_)
        obtain ⟨f_13, ef_13⟩ : ∃ z : Nat → Int32, z = upd w_5.1 (w_5.2 : Int32).toNatClampNeg (x1) := ⟨_, rfl⟩
        have hP : va_P D vwCl (wJ7_fill_53178 cI cB a_dg (upd w_5.1 (w_5.2 : Int32).toNatClampNeg (x1))) H := hP
        have hD : va_D A (wJ7_fill_53178 cI cB a_dg (upd w_5.1 (w_5.2 : Int32).toNatClampNeg (x1))) := hD
        rw [← ef_13] at hP hD
        obtain ⟨x_14, ex_14⟩ : ∃ z : Int32, z = w_5.2 + 1 := ⟨_, rfl⟩
        refine lv_iinc (v := x_14) (lv' := [(2, .int x_14), (0, .ref a_dg), (1, .int x1), (3, .int 32)]) hx hb dJ7_fill_53178_14 hl (k := 2) rfl (by rw [ex_14]; rfl) (by decide) rfl (fun ls hl => ?_)
        refine lv_goto (tgt := 5) hx hb dJ7_fill_53178_17 (by decide) ?_
        exact ih (f_13, x_14) (by subst ex_14; subst ef_13;  exact Nat.lt_of_lt_of_le (ms_up c_7) (Nat.le_of_lt_succ hm9)) (by subst ex_14; subst ef_13;  exact nn_up hI9 c_7) (by rw [← hL9]; subst ex_14; subst ef_13; simp only [LJ7_fill_53178_5, if_neg c_7]) _ _ hP hD hS ls (lv_sub hl [1, 2, 0, 3] rfl)
  exact lp_5 (msU 32 0 + 1) (v_dF, 0) (Nat.lt_succ_self _) (by show (0 : Int32) ≤ 0; decide) eg_5.symm _ _ hP hD hS ls (lv_sub hl [2, 3, 1, 0] rfl)
theorem hdJ7_fill_53178 : yJ7_fill_53178.cls = RJ7 ∧ yJ7_fill_53178.cls ≠ "java/lang/invoke/MethodHandle" ∧ yJ7_fill_53178.cls ≠ "java/lang/invoke/VarHandle" ∧ (parseMethodDescriptor yJ7_fill_53178.desc).map (fun d => d.parameters.length) = some 2 := by decide +kernel
