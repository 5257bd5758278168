noncomputable def LX1_combine_6 (x0 : Int32) (x2 : Int32) (v_dF2 : (Nat → Int32)) : Nat → ((Nat → Int32) × Int32 × Int32) → ((Nat → Int32) × Int32 × Int32)
  | 0, w_6 => w_6
  | n9 + 1, w_6 =>
    if 32 ≤ w_6.2.2 then ((w_6.1, w_6.2.1, w_6.2.2)) else (let x_35 := (((x0 * (w_6.1 (w_6.2.2 : Int32).toNatClampNeg)) + (x2 * (v_dF2 (w_6.2.2 : Int32).toNatClampNeg))) + w_6.2.1); let r_47 := fJ9_floorMod_7cf53 x_35 10; let f_50 := upd w_6.1 (w_6.2.2 : Int32).toNatClampNeg (r_47); let r_55 := fJ9_floorDiv_7cf53 x_35 10; let x_60 := w_6.2.2 + 1; LX1_combine_6 x0 x2 v_dF2 n9 (f_50, r_55, x_60))
noncomputable def fX1_combine (x0 : Int32) (x2 : Int32) (v_dF : (Nat → Int32)) (v_dF2 : (Nat → Int32)) : (Nat → Int32) :=
  let g_6 := LX1_combine_6 x0 x2 v_dF2 (msU 32 0 + 1) (v_dF, 0, 0)
  g_6.1
abbrev wX1_combine (cI cB : ClassId) (a_d a_dg a_d2 a_dg2 : Nat) (v_below : Int32) (v_dF : (Nat → Int32)) (v_below2 : Int32) (v_dF2 : (Nat → Int32)) : va_W := [(a_d, .inr (1, [.ref a_dg, .int v_below])), (a_dg, .inl (cI, 32, .inl v_dF)), (a_d2, .inr (1, [.ref a_dg2, .int v_below2])), (a_dg2, .inl (cI, 32, .inl v_dF2))]
abbrev rmX1_combine : Room := { frames := 1, cells := 0, slots := 0, locals := 22 }
abbrev qX1_combine (D : va_G) (cI cB : ClassId) (a_d a_dg a_d2 a_dg2 : Nat) (v_below : Int32) (v_dF : (Nat → Int32)) (v_below2 : Int32) (v_dF2 : (Nat → Int32)) (x0 : Int32) (x2 : Int32) : (Nat → Prop) → Array Value → State → Outcome → State → Prop := fun A9 => va_Qv (fun (u9 : (Nat → Int32)) => u9 = fX1_combine x0 x2 v_dF v_dF2) (fun u9 t9 => atW D (TYS cI cB) A9 (wX1_combine cI cB a_d a_dg a_d2 a_dg2 v_below u9 v_below2 v_dF2) t9) A9
set_option maxHeartbeats 4000000 in
set_option maxRecDepth 100000 in
theorem kX1_combine (l : Launch) (D : va_G) (cI cB : ClassId) (a_d a_dg a_d2 a_dg2 : Nat) (sz : Nat) (v_below : Int32) (v_dF : (Nat → Int32)) (v_below2 : Int32) (v_dF2 : (Nat → Int32)) (x0 : Int32) (x2 : Int32) : MetW l yX1_combine (WK yX1_combine cX1_combine 7 none) rmX1_combine D (TYS cI cB) (wX1_combine cI cB a_d a_dg a_d2 a_dg2 v_below v_dF v_below2 v_dF2) sz [.ref a_d, .int x0, .ref a_d2, .int x2] (qX1_combine D cI cB a_d a_dg a_d2 a_dg2 v_below v_dF v_below2 v_dF2 x0 x2) 0 0 := by
  refine met_std (by decide) rfl (Nat.le_of_ble_eq_true rfl) ?_
  intro p e s m below meth c A ls H hx hb hr hml hown hts hlocks hA hP hK hD hS hNW hl
  have hl : lv_has ls 7 [(0, .ref a_d), (1, .int x0), (2, .ref a_d2), (3, .int x2)] := hl
  have q_0 := hts _ (List.mem_cons_of_mem _ wd_129)
  refine lv_iconst (v := 0) hx hb dX1_combine_0 (by decide) ?_
  refine lv_istore (lv' := [(4, .int 0), (0, .ref a_d), (1, .int x0), (2, .ref a_d2), (3, .int x2)]) hx hb dX1_combine_1 hl (by decide) rfl (fun ls hl => ?_)
  refine lv_iconst (v := 0) hx hb dX1_combine_3 (by decide) ?_
  refine lv_istore (lv' := [(5, .int 0), (4, .int 0), (0, .ref a_d), (1, .int x0), (2, .ref a_d2), (3, .int x2)]) hx hb dX1_combine_4 hl (by decide) rfl (fun ls hl => ?_)
  obtain ⟨g_6, eg_6⟩ : ∃ z : ((Nat → Int32) × Int32 × Int32), z = LX1_combine_6 x0 x2 v_dF2 (msU 32 0 + 1) (v_dF, 0, 0) := ⟨_, rfl⟩
  have K_6_0 : ∀ (H : Heap) (locs : List Loc), va_P D vwCl (wX1_combine cI cB a_d a_dg a_d2 a_dg2 v_below g_6.1 v_below2 v_dF2) H → va_D A (wX1_combine cI cB a_d a_dg a_d2 a_dg2 v_below g_6.1 v_below2 v_dF2) → va_S A s.heap H locs → ∀ (ls : Array Slot), lv_has ls 7 [(0, .ref a_d), (1, .int x0), (2, .ref a_d2), (3, .int x2), (4, .int g_6.2.1), (5, .int g_6.2.2)] → W p l e rmX1_combine s m ([.ref a_d, .int x0, .ref a_d2, .int x2] : List Value).toArray below meth c H locs 0 0 (MQ below (qX1_combine D cI cB a_d a_dg a_d2 a_dg2 v_below v_dF v_below2 v_dF2 x0 x2 A) ([.ref a_d, .int x0, .ref a_d2, .int x2] : List Value).toArray s 0 0 A) (F0 m 66 ls []) := by
    intro H locs hP hD hS ls hl
    have hf9 : g_6.1 = fX1_combine x0 x2 v_dF v_dF2 := by simp only [fX1_combine, ← eg_6]
    exact W.vret hx hb hr (fun t9 ht9 hW9 => ⟨⟨g_6.1, rfl, hf9, ⟨by rw [ht9]; exact hP, va_K.moved hW9.alike hK, hD⟩⟩, hS.F ht9⟩) hS.2.2 dX1_combine_66
  have lp_6 : ∀ (n9 : Nat) (w_6 : ((Nat → Int32) × Int32 × Int32)), msU 32 w_6.2.2 < n9 → 0 ≤ w_6.2.2 → LX1_combine_6 x0 x2 v_dF2 n9 w_6 = g_6 → ∀ (H : Heap) (locs : List Loc), va_P D vwCl (wX1_combine cI cB a_d a_dg a_d2 a_dg2 v_below w_6.1 v_below2 v_dF2) H → va_D A (wX1_combine cI cB a_d a_dg a_d2 a_dg2 v_below w_6.1 v_below2 v_dF2) → va_S A s.heap H locs → ∀ (ls : Array Slot), lv_has ls 7 [(0, .ref a_d), (1, .int x0), (2, .ref a_d2), (3, .int x2), (4, .int w_6.2.1), (5, .int w_6.2.2)] → W p l e rmX1_combine s m ([.ref a_d, .int x0, .ref a_d2, .int x2] : List Value).toArray below meth c H locs 0 0 (MQ below (qX1_combine D cI cB a_d a_dg a_d2 a_dg2 v_below v_dF v_below2 v_dF2 x0 x2 A) ([.ref a_d, .int x0, .ref a_d2, .int x2] : List Value).toArray s 0 0 A) (F0 m 6 ls []) := by
    intro n9
    induction n9 with
    | zero => intro w_6 hm9; exact absurd hm9 (Nat.not_lt_zero _)
    | succ n9 ih =>
      intro w_6 hm9 hI9 hL9 H locs hP hD hS ls hl
      have hI_6 := hI9
      refine lv_iload hx hb dX1_combine_6 (lv_at hl 5 rfl) ?_
      refine lv_bipush (v := 32) hx hb dX1_combine_8 (by decide) ?_
      refine lv_icmp_ge (tgt := 66) hx hb dX1_combine_10 (by decide) (fun c_10 => ?_) (fun c_10 => ?_)
      · skip
        have hg9 : (w_6.1, w_6.2.1, w_6.2.2) = g_6 := by rw [← hL9]; simp only [LX1_combine_6, if_pos c_10]
        subst hg9
        exact K_6_0 _ _ hP hD hS ls (lv_sub hl [0, 1, 2, 3, 4, 5] rfl)
      · skip
        refine lv_iload_n hx hb dX1_combine_13 rfl (lv_at hl 1 rfl) ?_
        refine lv_aload_n hx hb dX1_combine_14 rfl (lv_at hl 0 rfl) ?_
        refine va_get (D := D) (ci := 1) (v := .ref a_dg) (C := RX1) (T := TX1) (N := 2) hx hb hts in_X1 hown hK hP 0 rfl rfl 0 (by decide) q_0 (fun _ h9 => h9) rfl dX1_combine_15 ?_
        refine lv_iload hx hb dX1_combine_18 (lv_at hl 5 rfl) ?_
        refine va_iald hx hb hK hP 1 0 rfl rfl (by first | with_reducible assumption | exact vin_of (b := 32) (by decide) (by with_reducible assumption) (by with_reducible assumption) | exact vin_of (b := 32) (by decide) (Int32.not_lt.mp (by with_reducible assumption)) (by with_reducible assumption) | exact vin_dn (by decide) (by with_reducible assumption) hI9) dX1_combine_20 ?_
        refine lv_imul hx hb dX1_combine_21 ?_
        refine lv_iload_n hx hb dX1_combine_22 rfl (lv_at hl 3 rfl) ?_
        refine lv_aload_n hx hb dX1_combine_23 rfl (lv_at hl 2 rfl) ?_
        refine va_get (D := D) (ci := 1) (v := .ref a_dg2) (C := RX1) (T := TX1) (N := 2) hx hb hts in_X1 hown hK hP 2 rfl rfl 0 (by decide) q_0 (fun _ h9 => h9) rfl dX1_combine_24 ?_
        refine lv_iload hx hb dX1_combine_27 (lv_at hl 5 rfl) ?_
        refine va_iald hx hb hK hP 3 0 rfl rfl (by first | with_reducible assumption | exact vin_of (b := 32) (by decide) (by with_reducible assumption) (by with_reducible assumption) | exact vin_of (b := 32) (by decide) (Int32.not_lt.mp (by with_reducible assumption)) (by with_reducible assumption) | exact vin_dn (by decide) (by with_reducible assumption) hI9) dX1_combine_29 ?_
        refine lv_imul hx hb dX1_combine_30 ?_
        refine lv_iadd hx hb dX1_combine_31 ?_
        refine lv_iload hx hb dX1_combine_32 (lv_at hl 4 rfl) ?_
        refine lv_iadd hx hb dX1_combine_34 ?_
        refine lv_topi (fun x_35 ex_35 => ?_)
        refine lv_istore (lv' := [(6, .int x_35), (0, .ref a_d), (1, .int x0), (2, .ref a_d2), (3, .int x2), (4, .int w_6.2.1), (5, .int w_6.2.2)]) hx hb dX1_combine_35 hl (by decide) rfl (fun ls hl => ?_)
        refine lv_aload_n hx hb dX1_combine_37 rfl (lv_at hl 1 rfl) ?_
        refine va_get (D := D) (ci := 1) (v := .ref a_dg) (C := RX1) (T := TX1) (N := 2) hx hb hts in_X1 hown hK hP 0 rfl rfl 0 (by decide) q_0 (fun _ h9 => h9) rfl dX1_combine_38 ?_
        refine lv_iload hx hb dX1_combine_41 (lv_at hl 6 rfl) ?_
        refine lv_iload hx hb dX1_combine_43 (lv_at hl 0 rfl) ?_
        refine lv_bipush (v := 10) hx hb dX1_combine_45 (by decide) ?_
        have hPc : va_P D vwCl (wJ9_floorMod_7cf53 cI cB  ) H := hP.sub [] rfl
        have hDc : va_D A (wJ9_floorMod_7cf53 cI cB  ) := hD.sub [] (by decide) rfl
        have hFc := va_free (wc := (wJ9_floorMod_7cf53 cI cB  )) hD hS hA [] rfl
        refine va_calli (va_runS (As := [.int x_35, .int 10]) (rest := [.int w_6.2.2, .ref a_dg]) ⟨hx, hb, hml, hown, hts⟩ (kJ9_floorMod_7cf53 l D cI cB  H.size  x_35 10 (by first | with_reducible assumption | decide | (unfold vp_in; decide))) (va_cwS 2 hts (gd_S wd_171 wd_172 wd_173 wd_168) rfl rfl rfl hdJ9_floorMod_7cf53.2 ⟨Nat.le_of_ble_eq_true rfl, Nat.le_of_ble_eq_true rfl⟩) (preS_std hPc hK hDc hNW) rfl rfl hl.1 rfl (lv_room (Nat.le_of_ble_eq_true rfl)) dX1_combine_47 ⟨Nat.zero_le _, Nat.zero_le _⟩) hS (fun q _ h => hFc q h) hFc (fun r_47 u_47 t9 H1 locs ht9 hvm9 hw9 hB9 hz9 hk9 hS => ?_)
        have er_47 : r_47 = fJ9_floorMod_7cf53 x_35 10 := hw9
        obtain ⟨hP, hD⟩ := back_std (w1 := (wJ9_floorMod_7cf53 cI cB  )) (w2 := (wX1_combine cI cB a_d a_dg a_d2 a_dg2 v_below w_6.1 v_below2 v_dF2)) (wr := [(a_d, .inr (1, [.ref a_dg, .int v_below])), (a_dg, .inl (cI, 32, .inl w_6.1)), (a_d2, .inr (1, [.ref a_dg2, .int v_below2])), (a_dg2, .inl (cI, 32, .inl v_dF2))]) hP hD [] [0, 1, 2, 3] [0, 1, 2, 3] rfl rfl (by decide) (by decide) hk9 hFc hB9 ht9 (by decide) rfl
        clear hB9 hk9 hz9 hvm9 ht9 hFc hPc hDc
        generalize H1 = H at hP hS ⊢
        refine va_iast hx hb hK hP hD hS 1 0 rfl rfl (by first | with_reducible assumption | exact vin_of (b := 32) (by decide) (by with_reducible assumption) (by with_reducible assumption) | exact vin_of (b := 32) (by decide) (Int32.not_lt.mp (by with_reducible assumption)) (by with_reducible assumption) | exact vin_dn (by decide) (by with_reducible assumption) hI9) dX1_combine_50 (fun H locs hP hD hS => ?_)
        obtain ⟨f_50, ef_50⟩ : ∃ z : Nat → Int32, z = upd w_6.1 (w_6.2.2 : Int32).toNatClampNeg (r_47) := ⟨_, rfl⟩
        have hP : va_P D vwCl (wX1_combine cI cB a_d a_dg a_d2 a_dg2 v_below (upd w_6.1 (w_6.2.2 : Int32).toNatClampNeg (r_47)) v_below2 v_dF2) H := hP
        have hD : va_D A (wX1_combine cI cB a_d a_dg a_d2 a_dg2 v_below (upd w_6.1 (w_6.2.2 : Int32).toNatClampNeg (r_47)) v_below2 v_dF2) := hD
        rw [← ef_50] at hP hD
        refine lv_iload hx hb dX1_combine_51 (lv_at hl 0 rfl) ?_
        refine lv_bipush (v := 10) hx hb dX1_combine_53 (by decide) ?_
        have hPc : va_P D vwCl (wJ9_floorDiv_7cf53 cI cB  ) H := hP.sub [] rfl
        have hDc : va_D A (wJ9_floorDiv_7cf53 cI cB  ) := hD.sub [] (by decide) rfl
        have hFc := va_free (wc := (wJ9_floorDiv_7cf53 cI cB  )) hD hS hA [] rfl
        refine va_calli (va_runS (As := [.int x_35, .int 10]) (rest := []) ⟨hx, hb, hml, hown, hts⟩ (kJ9_floorDiv_7cf53 l D cI cB  H.size  x_35 10 (by first | with_reducible assumption | decide | (unfold vp_in; decide))) (va_cwS 2 hts (gd_S wd_174 wd_175 wd_173 wd_169) rfl rfl rfl hdJ9_floorDiv_7cf53.2 ⟨Nat.le_of_ble_eq_true rfl, Nat.le_of_ble_eq_true rfl⟩) (preS_std hPc hK hDc hNW) rfl rfl hl.1 rfl (lv_room (Nat.le_of_ble_eq_true rfl)) dX1_combine_55 ⟨Nat.zero_le _, Nat.zero_le _⟩) hS (fun q _ h => hFc q h) hFc (fun r_55 u_55 t9 H1 locs ht9 hvm9 hw9 hB9 hz9 hk9 hS => ?_)
        have er_55 : r_55 = fJ9_floorDiv_7cf53 x_35 10 := hw9
        obtain ⟨hP, hD⟩ := back_std (w1 := (wJ9_floorDiv_7cf53 cI cB  )) (w2 := (wX1_combine cI cB a_d a_dg a_d2 a_dg2 v_below f_50 v_below2 v_dF2)) (wr := [(a_d, .inr (1, [.ref a_dg, .int v_below])), (a_dg, .inl (cI, 32, .inl f_50)), (a_d2, .inr (1, [.ref a_dg2, .int v_below2])), (a_dg2, .inl (cI, 32, .inl v_dF2))]) hP hD [] [0, 1, 2, 3] [0, 1, 2, 3] rfl rfl (by decide) (by decide) hk9 hFc hB9 ht9 (by decide) rfl
        clear hB9 hk9 hz9 hvm9 ht9 hFc hPc hDc
        generalize H1 = H at hP hS ⊢
        refine lv_istore (lv' := [(4, .int r_55), (6, .int x_35), (0, .ref a_d), (1, .int x0), (2, .ref a_d2), (3, .int x2), (5, .int w_6.2.2)]) hx hb dX1_combine_58 hl (by decide) rfl (fun ls hl => ?_)
        obtain ⟨x_60, ex_60⟩ : ∃ z : Int32, z = w_6.2.2 + 1 := ⟨_, rfl⟩
        refine lv_iinc (v := x_60) (lv' := [(5, .int x_60), (4, .int r_55), (6, .int x_35), (0, .ref a_d), (1, .int x0), (2, .ref a_d2), (3, .int x2)]) hx hb dX1_combine_60 hl (k := 6) rfl (by rw [ex_60]; rfl) (by decide) rfl (fun ls hl => ?_)
        refine lv_goto (tgt := 6) hx hb dX1_combine_63 (by decide) ?_
        exact ih (f_50, r_55, x_60) (by subst ex_60; subst er_55; subst ef_50; subst er_47; subst ex_35;  exact Nat.lt_of_lt_of_le (ms_up c_10) (Nat.le_of_lt_succ hm9)) (by subst ex_60; subst er_55; subst ef_50; subst er_47; subst ex_35;  exact nn_up hI9 c_10) (by rw [← hL9]; subst ex_60; subst ef_50; subst ex_35; simp only [LX1_combine_6, ← er_47, ← er_55, if_neg c_10]) _ _ hP hD hS ls (lv_sub hl [3, 4, 5, 6, 1, 0] rfl)
  exact lp_6 (msU 32 0 + 1) (v_dF, 0, 0) (Nat.lt_succ_self _) (by show (0 : Int32) ≤ 0; decide) eg_6.symm _ _ hP hD hS ls (lv_sub hl [2, 3, 4, 5, 1, 0] rfl)
theorem hdX1_combine : yX1_combine.cls = RX1 ∧ yX1_combine.cls ≠ "java/lang/invoke/MethodHandle" ∧ yX1_combine.cls ≠ "java/lang/invoke/VarHandle" ∧ (parseMethodDescriptor yX1_combine.desc).map (fun d => d.parameters.length) = some 3 := by decide +kernel
