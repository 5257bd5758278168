noncomputable def LX1_take_45 (x2 : Int32) (v_bF : (Nat → Int32)) (x_5 : Int32) : Nat → ((Nat → Int32) × Int32 × Int32) → ((Nat → Int32) × Int32 × Int32)
  | 0, w_45 => w_45
  | n9 + 1, w_45 =>
    if ((2 * x2) - 1) ≤ w_45.2.2 then ((w_45.1, w_45.2.1, w_45.2.2)) else (if 32 ≤ w_45.2.2 then ((w_45.1, w_45.2.1, w_45.2.2)) else (let r_72 := fX6_get (x_5 - ((w_45.2.2 + 1) / 2)) v_bF; let m_102 : Int32 := (if (w_45.2.2 - w_45.2.2 / 2 * 2) = 0 then ((r_72 >>> (4 &&& 31))) else ((r_72 &&& 15))); let f_102 := upd w_45.1 (w_45.2.2 : Int32).toNatClampNeg (m_102); let m_125 : Int32 := (if w_45.2.1 = 0 then (0) else (if 9 < (f_102 (w_45.2.2 : Int32).toNatClampNeg) then (0) else (1))); let x_127 := w_45.2.2 + 1; LX1_take_45 x2 v_bF x_5 n9 (f_102, m_125, x_127)))
theorem zLX1_take_45 (x2 : Int32) (v_bF : (Nat → Int32)) (x_5 : Int32) : ∀ (n9 : Nat) (w9 : ((Nat → Int32) × Int32 × Int32)), (w9.2.1 = 0 ∨ w9.2.1 = 1) → ((LX1_take_45 x2 v_bF x_5 n9 w9).2.1 = 0 ∨ (LX1_take_45 x2 v_bF x_5 n9 w9).2.1 = 1)
  | 0, w9, h9 => h9
  | n9 + 1, w9, h9 => by
    simp only [LX1_take_45]
    (repeat' split) <;> first | exact h9 | exact zLX1_take_45 x2 v_bF x_5 n9 _ (Or.inl rfl) | exact zLX1_take_45 x2 v_bF x_5 n9 _ (Or.inr rfl) | exact zLX1_take_45 x2 v_bF x_5 n9 _ h9
noncomputable def fX1_take (x1 : Int32) (x2 : Int32) (v_bF : (Nat → Int32)) (v_below : Int32) (v_dF : (Nat → Int32)) : (Int32 × (Int32 × (Nat → Int32))) :=
  let x_5 := ((x1 + x2) - 1)
  let r_10 := fX6_get x_5 v_bF
  let x_16 := (r_10 &&& 15)
  let r_20 := fX1_isSign x_16
  let r_28 := fX1_isSignBelow x_16
  let u_39 := fJ7_fill_53178 0 v_dF
  let g_45 := LX1_take_45 x2 v_bF x_5 (msU ((2 * x2) - 1) 0 + 1) (u_39, r_20, 0)
  (g_45.2.1, (r_28, g_45.1))
theorem zX1_take (x1 : Int32) (x2 : Int32) (v_bF : (Nat → Int32)) (v_below : Int32) (v_dF : (Nat → Int32)) : (fX1_take x1 x2 v_bF v_below v_dF).1 = 0 ∨ (fX1_take x1 x2 v_bF v_below v_dF).1 = 1 := by unfold fX1_take; exact zLX1_take_45 _ _ _ _ _ (zX1_isSign _)
abbrev wX1_take (cI cB : ClassId) (a_me a_by a_ks a_d a_dg : Nat) (v_bF : (Nat → Int32)) (v_below : Int32) (v_dF : (Nat → Int32)) : va_W := [(a_me, .inr (6, [.ref a_by, .ref a_ks])), (a_by, .inl (cB, 8192, .inl v_bF)), (a_d, .inr (1, [.ref a_dg, .int v_below])), (a_dg, .inl (cI, 32, .inl v_dF))]
abbrev rmX1_take : Room := { frames := 1, cells := 0, slots := 0, locals := 23 }
abbrev qX1_take (D : va_G) (cI cB : ClassId) (a_me a_by a_ks a_d a_dg : Nat) (v_bF : (Nat → Int32)) (v_below : Int32) (v_dF : (Nat → Int32)) (x1 : Int32) (x2 : Int32) : (Nat → Prop) → Array Value → State → Outcome → State → Prop := fun A9 => va_Qi (fun (r9 : Int32) (u9 : (Int32 × (Nat → Int32))) => r9 = (fX1_take x1 x2 v_bF v_below v_dF).1 ∧ u9 = (fX1_take x1 x2 v_bF v_below v_dF).2) (fun u9 t9 => atW D (TYS cI cB) A9 (wX1_take cI cB a_me a_by a_ks a_d a_dg v_bF u9.1 u9.2) t9) A9
set_option maxHeartbeats 4000000 in
set_option maxRecDepth 100000 in
theorem kX1_take (l : Launch) (D : va_G) (cI cB : ClassId) (a_me a_by a_ks a_d a_dg : Nat) (sz : Nat) (v_bF : (Nat → Int32)) (v_below : Int32) (v_dF : (Nat → Int32)) (x1 : Int32) (x2 : Int32) : MetW l yX1_take (WK yX1_take cX1_take 9 (some .boolean)) rmX1_take D (TYS cI cB) (wX1_take cI cB a_me a_by a_ks a_d a_dg v_bF v_below v_dF) sz [.ref a_d, .ref a_me, .int x1, .int x2] (qX1_take D cI cB a_me a_by a_ks a_d a_dg v_bF v_below v_dF x1 x2) 0 0 := by
  refine met_std (by decide) rfl (Nat.le_of_ble_eq_true rfl) ?_
  intro p e s m below meth c A ls H hx hb hr hml hown hts hlocks hA hP hK hD hS hNW hl
  have hl : lv_has ls 9 [(0, .ref a_d), (1, .ref a_me), (2, .int x1), (3, .int x2)] := hl
  have q_0 := hts _ (List.mem_cons_of_mem _ wd_134)
  have q_1 := hts _ (List.mem_cons_of_mem _ wd_129)
  refine lv_iload_n hx hb dX1_take_0 rfl (lv_at hl 2 rfl) ?_
  refine lv_iload_n hx hb dX1_take_1 rfl (lv_at hl 3 rfl) ?_
  refine lv_iadd hx hb dX1_take_2 ?_
  refine lv_iconst (v := 1) hx hb dX1_take_3 (by decide) ?_
  refine lv_isub hx hb dX1_take_4 ?_
  refine lv_topi (fun x_5 ex_5 => ?_)
  refine lv_istore (lv' := [(4, .int x_5), (0, .ref a_d), (1, .ref a_me), (2, .int x1), (3, .int x2)]) hx hb dX1_take_5 hl (by decide) rfl (fun ls hl => ?_)
  refine lv_aload_n hx hb dX1_take_7 rfl (lv_at hl 2 rfl) ?_
  refine lv_iload hx hb dX1_take_8 (lv_at hl 0 rfl) ?_
  have hPc : va_P D vwCl (wX6_get cI cB a_me a_by a_ks v_bF) H := hP.sub [0, 1] rfl
  have hDc : va_D A (wX6_get cI cB a_me a_by a_ks v_bF) := hD.sub [0, 1] (by decide) rfl
  have hFc := va_free (wc := (wX6_get cI cB a_me a_by a_ks v_bF)) hD hS hA [0, 1] rfl
  refine va_calli (va_runV (As := [.int x_5]) (rest := []) ⟨hx, hb, hml, hown, hts⟩ (kX6_get l D cI cB a_me a_by a_ks H.size v_bF x_5) (cwV 1 hts (gd_V wd_135 wd_109 wd_110 wd_78 wd_102) rfl rfl rfl hdX6_get ⟨Nat.le_of_ble_eq_true rfl, Nat.le_of_ble_eq_true rfl⟩) (preV_std (ci := 6) (q0 := 0) hPc hK hDc hNW rfl rfl) rfl rfl hl.1 rfl (lv_room (Nat.le_of_ble_eq_true rfl)) dX1_take_10 ⟨Nat.zero_le _, Nat.zero_le _⟩) hS (fun q _ h => hFc q h) hFc (fun r_10 u_10 t9 H1 locs ht9 hvm9 hw9 hB9 hz9 hk9 hS => ?_)
  have er_10 : r_10 = fX6_get x_5 v_bF := hw9
  obtain ⟨hP, hD⟩ := back_std (w1 := (wX6_get cI cB a_me a_by a_ks v_bF)) (w2 := (wX1_take cI cB a_me a_by a_ks a_d a_dg v_bF v_below v_dF)) (wr := [(a_d, .inr (1, [.ref a_dg, .int v_below])), (a_dg, .inl (cI, 32, .inl v_dF))]) hP hD [0, 1] [2, 3] [2, 3, 0, 1] rfl rfl (by decide) (by decide) hk9 hFc hB9 ht9 (by decide) rfl
  clear hB9 hk9 hz9 hvm9 ht9 hFc hPc hDc
  generalize H1 = H at hP hS ⊢
  refine lv_bipush (v := 15) hx hb dX1_take_13 (by decide) ?_
  refine lv_iand hx hb dX1_take_15 ?_
  refine lv_topi (fun x_16 ex_16 => ?_)
  refine lv_istore (lv' := [(5, .int x_16), (4, .int x_5), (0, .ref a_d), (1, .ref a_me), (2, .int x1), (3, .int x2)]) hx hb dX1_take_16 hl (by decide) rfl (fun ls hl => ?_)
  refine lv_iload hx hb dX1_take_18 (lv_at hl 0 rfl) ?_
  have hPc : va_P D vwCl (wX1_isSign cI cB  ) H := hP.sub [] rfl
  have hDc : va_D A (wX1_isSign cI cB  ) := hD.sub [] (by decide) rfl
  have hFc := va_free (wc := (wX1_isSign cI cB  )) hD hS hA [] rfl
  refine va_calli (va_runS (As := [.int x_16]) (rest := []) ⟨hx, hb, hml, hown, hts⟩ (kX1_isSign l D cI cB  H.size  x_16) (va_cwS 1 hts (gd_S wd_136 wd_137 wd_138 wd_130) rfl rfl rfl hdX1_isSign.2 ⟨Nat.le_of_ble_eq_true rfl, Nat.le_of_ble_eq_true rfl⟩) (preS_std hPc hK hDc hNW) rfl rfl hl.1 rfl (lv_room (Nat.le_of_ble_eq_true rfl)) dX1_take_20 ⟨Nat.zero_le _, Nat.zero_le _⟩) hS (fun q _ h => hFc q h) hFc (fun r_20 u_20 t9 H1 locs ht9 hvm9 hw9 hB9 hz9 hk9 hS => ?_)
  have er_20 : r_20 = fX1_isSign x_16 := hw9
  have zr_20 : r_20 = 0 ∨ r_20 = 1 := by rw [er_20]; exact zX1_isSign _
  obtain ⟨hP, hD⟩ := back_std (w1 := (wX1_isSign cI cB  )) (w2 := (wX1_take cI cB a_me a_by a_ks a_d a_dg v_bF v_below v_dF)) (wr := [(a_me, .inr (6, [.ref a_by, .ref a_ks])), (a_by, .inl (cB, 8192, .inl v_bF)), (a_d, .inr (1, [.ref a_dg, .int v_below])), (a_dg, .inl (cI, 32, .inl v_dF))]) hP hD [] [0, 1, 2, 3] [0, 1, 2, 3] rfl rfl (by decide) (by decide) hk9 hFc hB9 ht9 (by decide) rfl
  clear hB9 hk9 hz9 hvm9 ht9 hFc hPc hDc
  generalize H1 = H at hP hS ⊢
  refine lv_istore (lv' := [(6, .int r_20), (5, .int x_16), (4, .int x_5), (0, .ref a_d), (1, .ref a_me), (2, .int x1), (3, .int x2)]) hx hb dX1_take_23 hl (by decide) rfl (fun ls hl => ?_)
  refine lv_aload_n hx hb dX1_take_25 rfl (lv_at hl 3 rfl) ?_
  refine lv_iload hx hb dX1_take_26 (lv_at hl 1 rfl) ?_
  have hPc : va_P D vwCl (wX1_isSignBelow cI cB  ) H := hP.sub [] rfl
  have hDc : va_D A (wX1_isSignBelow cI cB  ) := hD.sub [] (by decide) rfl
  have hFc := va_free (wc := (wX1_isSignBelow cI cB  )) hD hS hA [] rfl
  refine va_calli (va_runS (As := [.int x_16]) (rest := [.ref a_d]) ⟨hx, hb, hml, hown, hts⟩ (kX1_isSignBelow l D cI cB  H.size  x_16) (va_cwS 1 hts (gd_S wd_139 wd_140 wd_138 wd_131) rfl rfl rfl hdX1_isSignBelow.2 ⟨Nat.le_of_ble_eq_true rfl, Nat.le_of_ble_eq_true rfl⟩) (preS_std hPc hK hDc hNW) rfl rfl hl.1 rfl (lv_room (Nat.le_of_ble_eq_true rfl)) dX1_take_28 ⟨Nat.zero_le _, Nat.zero_le _⟩) hS (fun q _ h => hFc q h) hFc (fun r_28 u_28 t9 H1 locs ht9 hvm9 hw9 hB9 hz9 hk9 hS => ?_)
  have er_28 : r_28 = fX1_isSignBelow x_16 := hw9
  have zr_28 : r_28 = 0 ∨ r_28 = 1 := by rw [er_28]; exact zX1_isSignBelow _
  obtain ⟨hP, hD⟩ := back_std (w1 := (wX1_isSignBelow cI cB  )) (w2 := (wX1_take cI cB a_me a_by a_ks a_d a_dg v_bF v_below v_dF)) (wr := [(a_me, .inr (6, [.ref a_by, .ref a_ks])), (a_by, .inl (cB, 8192, .inl v_bF)), (a_d, .inr (1, [.ref a_dg, .int v_below])), (a_dg, .inl (cI, 32, .inl v_dF))]) hP hD [] [0, 1, 2, 3] [0, 1, 2, 3] rfl rfl (by decide) (by decide) hk9 hFc hB9 ht9 (by decide) rfl
  clear hB9 hk9 hz9 hvm9 ht9 hFc hPc hDc
  generalize H1 = H at hP hS ⊢
  refine va_put (D := D) (ci := 1) (v := .int r_28) (ty := .boolean) (C := RX1) (T := TX1) (N := 2) hx hb hts in_X1 tyX1 tyX1_ok nmX1 hown hK hP hD hS 2 rfl rfl 1 (by decide) q_0 (fun _ h9 => h9) rfl (by decide +kernel) (zb_narrow (by with_reducible assumption)) (zb_fits (by with_reducible assumption)) (Nat.le_of_ble_eq_true rfl) dX1_take_31 (fun H locs hP hD hS => ?_)
  have hP : va_P D vwCl (wX1_take cI cB a_me a_by a_ks a_d a_dg v_bF r_28 v_dF) H := hP
  have hD : va_D A (wX1_take cI cB a_me a_by a_ks a_d a_dg v_bF r_28 v_dF) := hD
  refine lv_aload_n hx hb dX1_take_34 rfl (lv_at hl 3 rfl) ?_
  refine va_get (D := D) (ci := 1) (v := .ref a_dg) (C := RX1) (T := TX1) (N := 2) hx hb hts in_X1 hown hK hP 2 rfl rfl 0 (by decide) q_1 (fun _ h9 => h9) rfl dX1_take_35 ?_
  refine lv_iconst (v := 0) hx hb dX1_take_38 (by decide) ?_
  have hPc : va_P D vwCl (wJ7_fill_53178 cI cB a_dg v_dF) H := hP.sub [3] rfl
  have hDc : va_D A (wJ7_fill_53178 cI cB a_dg v_dF) := hD.sub [3] (by decide) rfl
  have hFc := va_free (wc := (wJ7_fill_53178 cI cB a_dg v_dF)) hD hS hA [3] rfl
  refine va_callv (va_runS (As := [.ref a_dg, .int 0]) (rest := []) ⟨hx, hb, hml, hown, hts⟩ (kJ7_fill_53178 l D cI cB a_dg H.size v_dF 0) (va_cwS 2 hts (gd_S wd_141 wd_142 wd_143 wd_132) rfl rfl rfl hdJ7_fill_53178.2 ⟨Nat.le_of_ble_eq_true rfl, Nat.le_of_ble_eq_true rfl⟩) (preS_std hPc hK hDc hNW) rfl rfl hl.1 rfl (lv_room (Nat.le_of_ble_eq_true rfl)) dX1_take_39 ⟨Nat.zero_le _, Nat.zero_le _⟩) hS (fun q _ h => hFc q h) hFc (fun u_39 t9 H1 locs ht9 hvm9 hw9 hB9 hz9 hk9 hS => ?_)
  have eu_39 : u_39 = fJ7_fill_53178 0 v_dF := hw9
  obtain ⟨hP, hD⟩ := back_std (w1 := (wJ7_fill_53178 cI cB a_dg u_39)) (w2 := (wX1_take cI cB a_me a_by a_ks a_d a_dg v_bF r_28 u_39)) (wr := [(a_me, .inr (6, [.ref a_by, .ref a_ks])), (a_by, .inl (cB, 8192, .inl v_bF)), (a_d, .inr (1, [.ref a_dg, .int r_28]))]) hP hD [3] [0, 1, 2] [0, 1, 2, 3] rfl rfl (by decide) (by decide) hk9 hFc hB9 ht9 (by decide) rfl
  clear hB9 hk9 hz9 hvm9 ht9 hFc hPc hDc
  generalize H1 = H at hP hS ⊢
  refine lv_iconst (v := 0) hx hb dX1_take_42 (by decide) ?_
  refine lv_istore (lv' := [(7, .int 0), (6, .int r_20), (5, .int x_16), (4, .int x_5), (0, .ref a_d), (1, .ref a_me), (2, .int x1), (3, .int x2)]) hx hb dX1_take_43 hl (by decide) rfl (fun ls hl => ?_)
  obtain ⟨g_45, eg_45⟩ : ∃ z : ((Nat → Int32) × Int32 × Int32), z = LX1_take_45 x2 v_bF x_5 (msU ((2 * x2) - 1) 0 + 1) (u_39, r_20, 0) := ⟨_, rfl⟩
  have zg_45 : g_45.2.1 = 0 ∨ g_45.2.1 = 1 := by rw [eg_45]; exact zLX1_take_45 x2 v_bF x_5 _ _ (by first | exact Or.inl rfl | exact Or.inr rfl | assumption)
  have K_45_0 : ∀ (H : Heap) (locs : List Loc), va_P D vwCl (wX1_take cI cB a_me a_by a_ks a_d a_dg v_bF r_28 g_45.1) H → va_D A (wX1_take cI cB a_me a_by a_ks a_d a_dg v_bF r_28 g_45.1) → va_S A s.heap H locs → ∀ (ls : Array Slot), lv_has ls 9 [(0, .ref a_d), (1, .ref a_me), (2, .int x1), (3, .int x2), (4, .int x_5), (5, .int x_16), (6, .int g_45.2.1), (7, .int g_45.2.2)] → W p l e rmX1_take s m ([.ref a_d, .ref a_me, .int x1, .int x2] : List Value).toArray below meth c H locs 0 0 (MQ below (qX1_take D cI cB a_me a_by a_ks a_d a_dg v_bF v_below v_dF x1 x2 A) ([.ref a_d, .ref a_me, .int x1, .int x2] : List Value).toArray s 0 0 A) (F0 m 133 ls []) := by
    intro H locs hP hD hS ls hl
    refine lv_iload hx hb dX1_take_133 (lv_at hl 6 rfl) ?_
    have hf9 : (g_45.2.1, (r_28, g_45.1)) = fX1_take x1 x2 v_bF v_below v_dF := by subst ex_16; subst ex_5; simp only [fX1_take, ← er_10, ← er_20, ← er_28, ← eu_39, ← eg_45]
    exact W.zret hx hb hr (zb_narrow (by with_reducible assumption)) (fun t9 ht9 hW9 => ⟨⟨g_45.2.1, (r_28, g_45.1), rfl, ⟨by rw [← hf9], by rw [← hf9]⟩, ⟨by rw [ht9]; exact hP, va_K.moved hW9.alike hK, hD⟩⟩, hS.F ht9⟩) hS.2.2 dX1_take_135
  have lp_45 : ∀ (n9 : Nat) (w_45 : ((Nat → Int32) × Int32 × Int32)), msU ((2 * x2) - 1) w_45.2.2 < n9 → 0 ≤ w_45.2.2 → LX1_take_45 x2 v_bF x_5 n9 w_45 = g_45 → ∀ (H : Heap) (locs : List Loc), va_P D vwCl (wX1_take cI cB a_me a_by a_ks a_d a_dg v_bF r_28 w_45.1) H → va_D A (wX1_take cI cB a_me a_by a_ks a_d a_dg v_bF r_28 w_45.1) → va_S A s.heap H locs → ∀ (ls : Array Slot), lv_has ls 9 [(0, .ref a_d), (1, .ref a_me), (2, .int x1), (3, .int x2), (4, .int x_5), (5, .int x_16), (6, .int w_45.2.1), (7, .int w_45.2.2)] → W p l e rmX1_take s m ([.ref a_d, .ref a_me, .int x1, .int x2] : List Value).toArray below meth c H locs 0 0 (MQ below (qX1_take D cI cB a_me a_by a_ks a_d a_dg v_bF v_below v_dF x1 x2 A) ([.ref a_d, .ref a_me, .int x1, .int x2] : List Value).toArray s 0 0 A) (F0 m 45 ls []) := by
    intro n9
    induction n9 with
    | zero => intro w_45 hm9; exact absurd hm9 (Nat.not_lt_zero _)
    | succ n9 ih =>
      intro w_45 hm9 hI9 hL9 H locs hP hD hS ls hl
      have hI_45 := hI9
      refine lv_iload hx hb dX1_take_45 (lv_at hl 7 rfl) ?_
      refine lv_iconst (v := 2) hx hb dX1_take_47 (by decide) ?_
      refine lv_iload_n hx hb dX1_take_48 rfl (lv_at hl 3 rfl) ?_
      refine lv_imul hx hb dX1_take_49 ?_
      refine lv_iconst (v := 1) hx hb dX1_take_50 (by decide) ?_
      refine lv_isub hx hb dX1_take_51 ?_
      refine lv_icmp_ge (tgt := 133) hx hb dX1_take_52 (by decide) (fun c_52 => ?_) (fun c_52 => ?_)
      · skip
        have hg9 : (w_45.1, w_45.2.1, w_45.2.2) = g_45 := by rw [← hL9]; simp only [LX1_take_45, if_pos c_52]
        subst hg9
        exact K_45_0 _ _ hP hD hS ls (lv_sub hl [0, 1, 2, 3, 4, 5, 6, 7] rfl)
      · skip
        refine lv_iload hx hb dX1_take_55 (lv_at hl 7 rfl) ?_
        refine lv_bipush (v := 32) hx hb dX1_take_57 (by decide) ?_
        refine lv_icmp_ge (tgt := 133) hx hb dX1_take_59 (by decide) (fun c_59 => ?_) (fun c_59 => ?_)
        · skip
          have hg9 : (w_45.1, w_45.2.1, w_45.2.2) = g_45 := by rw [← hL9]; simp only [LX1_take_45, if_neg c_52, if_pos c_59]
          subst hg9
          exact K_45_0 _ _ hP hD hS ls (lv_sub hl [0, 1, 2, 3, 4, 5, 6, 7] rfl)
        · skip
          refine lv_aload_n hx hb dX1_take_62 rfl (lv_at hl 1 rfl) ?_
          refine lv_iload hx hb dX1_take_63 (lv_at hl 4 rfl) ?_
          refine lv_iload hx hb dX1_take_65 (lv_at hl 7 rfl) ?_
          refine lv_iconst (v := 1) hx hb dX1_take_67 (by decide) ?_
          refine lv_iadd hx hb dX1_take_68 ?_
          refine lv_iconst (v := 2) hx hb dX1_take_69 (by decide) ?_
          refine lv_idiv hx hb dX1_take_70 (by decide) ?_
          refine lv_isub hx hb dX1_take_71 ?_
          have hPc : va_P D vwCl (wX6_get cI cB a_me a_by a_ks v_bF) H := hP.sub [0, 1] rfl
          have hDc : va_D A (wX6_get cI cB a_me a_by a_ks v_bF) := hD.sub [0, 1] (by decide) rfl
          have hFc := va_free (wc := (wX6_get cI cB a_me a_by a_ks v_bF)) hD hS hA [0, 1] rfl
          refine va_calli (va_runV (As := [.int ((x_5 - ((w_45.2.2 + 1) / 2)))]) (rest := []) ⟨hx, hb, hml, hown, hts⟩ (kX6_get l D cI cB a_me a_by a_ks H.size v_bF (x_5 - ((w_45.2.2 + 1) / 2))) (cwV 1 hts (gd_V wd_135 wd_109 wd_110 wd_78 wd_102) rfl rfl rfl hdX6_get ⟨Nat.le_of_ble_eq_true rfl, Nat.le_of_ble_eq_true rfl⟩) (preV_std (ci := 6) (q0 := 0) hPc hK hDc hNW rfl rfl) rfl rfl hl.1 rfl (lv_room (Nat.le_of_ble_eq_true rfl)) dX1_take_72 ⟨Nat.zero_le _, Nat.zero_le _⟩) hS (fun q _ h => hFc q h) hFc (fun r_72 u_72 t9 H1 locs ht9 hvm9 hw9 hB9 hz9 hk9 hS => ?_)
          have er_72 : r_72 = fX6_get (x_5 - ((w_45.2.2 + 1) / 2)) v_bF := hw9
          obtain ⟨hP, hD⟩ := back_std (w1 := (wX6_get cI cB a_me a_by a_ks v_bF)) (w2 := (wX1_take cI cB a_me a_by a_ks a_d a_dg v_bF r_28 w_45.1)) (wr := [(a_d, .inr (1, [.ref a_dg, .int r_28])), (a_dg, .inl (cI, 32, .inl w_45.1))]) hP hD [0, 1] [2, 3] [2, 3, 0, 1] rfl rfl (by decide) (by decide) hk9 hFc hB9 ht9 (by decide) rfl
          clear hB9 hk9 hz9 hvm9 ht9 hFc hPc hDc
          generalize H1 = H at hP hS ⊢
          refine lv_istore (lv' := [(8, .int r_72), (0, .ref a_d), (1, .ref a_me), (2, .int x1), (3, .int x2), (4, .int x_5), (5, .int x_16), (6, .int w_45.2.1), (7, .int w_45.2.2)]) hx hb dX1_take_75 hl (by decide) rfl (fun ls hl => ?_)
          refine lv_aload_n hx hb dX1_take_77 rfl (lv_at hl 1 rfl) ?_
          refine va_get (D := D) (ci := 1) (v := .ref a_dg) (C := RX1) (T := TX1) (N := 2) hx hb hts in_X1 hown hK hP 2 rfl rfl 0 (by decide) q_1 (fun _ h9 => h9) rfl dX1_take_78 ?_
          refine lv_iload hx hb dX1_take_81 (lv_at hl 8 rfl) ?_
          refine lv_iload hx hb dX1_take_83 (lv_at hl 8 rfl) ?_
          refine lv_iconst (v := 2) hx hb dX1_take_85 (by decide) ?_
          refine lv_irem hx hb dX1_take_86 (by decide) ?_
          have J_102 : ∀ (m_102 : Int32), m_102 = (if (w_45.2.2 - w_45.2.2 / 2 * 2) = 0 then ((r_72 >>> (4 &&& 31))) else ((r_72 &&& 15))) → ∀ (H : Heap) (locs : List Loc), va_P D vwCl (wX1_take cI cB a_me a_by a_ks a_d a_dg v_bF r_28 w_45.1) H → va_D A (wX1_take cI cB a_me a_by a_ks a_d a_dg v_bF r_28 w_45.1) → va_S A s.heap H locs → ∀ (ls : Array Slot), lv_has ls 9 [(0, .ref a_d), (1, .ref a_me), (2, .int x1), (3, .int x2), (4, .int x_5), (5, .int x_16), (6, .int w_45.2.1), (7, .int w_45.2.2), (8, .int r_72)] → W p l e rmX1_take s m ([.ref a_d, .ref a_me, .int x1, .int x2] : List Value).toArray below meth c H locs 0 0 (MQ below (qX1_take D cI cB a_me a_by a_ks a_d a_dg v_bF v_below v_dF x1 x2 A) ([.ref a_d, .ref a_me, .int x1, .int x2] : List Value).toArray s 0 0 A) (F0 m 102 ls [.int m_102, .int w_45.2.2, .ref a_dg]) := by
            intro m_102 em_102 H locs hP hD hS ls hl
            refine va_iast hx hb hK hP hD hS 3 0 rfl rfl (by first | with_reducible assumption | exact vin_of (b := 32) (by decide) (by with_reducible assumption) (by with_reducible assumption) | exact vin_of (b := 32) (by decide) (Int32.not_lt.mp (by with_reducible assumption)) (by with_reducible assumption) | exact vin_dn (by decide) (by with_reducible assumption) hI9) dX1_take_102 (fun H locs hP hD hS => ?_)
            obtain ⟨f_102, ef_102⟩ : ∃ z : Nat → Int32, z = upd w_45.1 (w_45.2.2 : Int32).toNatClampNeg (m_102) := ⟨_, rfl⟩
            have hP : va_P D vwCl (wX1_take cI cB a_me a_by a_ks a_d a_dg v_bF r_28 (upd w_45.1 (w_45.2.2 : Int32).toNatClampNeg (m_102))) H := hP
            have hD : va_D A (wX1_take cI cB a_me a_by a_ks a_d a_dg v_bF r_28 (upd w_45.1 (w_45.2.2 : Int32).toNatClampNeg (m_102))) := hD
            rw [← ef_102] at hP hD
            refine lv_iload hx hb dX1_take_103 (lv_at hl 6 rfl) ?_
            have J_125 : ∀ (m_125 : Int32), m_125 = (if w_45.2.1 = 0 then (0) else (if 9 < (f_102 (w_45.2.2 : Int32).toNatClampNeg) then (0) else (1))) → ∀ (H : Heap) (locs : List Loc), va_P D vwCl (wX1_take cI cB a_me a_by a_ks a_d a_dg v_bF r_28 f_102) H → va_D A (wX1_take cI cB a_me a_by a_ks a_d a_dg v_bF r_28 f_102) → va_S A s.heap H locs → ∀ (ls : Array Slot), lv_has ls 9 [(0, .ref a_d), (1, .ref a_me), (2, .int x1), (3, .int x2), (4, .int x_5), (5, .int x_16), (6, .int w_45.2.1), (7, .int w_45.2.2), (8, .int r_72)] → W p l e rmX1_take s m ([.ref a_d, .ref a_me, .int x1, .int x2] : List Value).toArray below meth c H locs 0 0 (MQ below (qX1_take D cI cB a_me a_by a_ks a_d a_dg v_bF v_below v_dF x1 x2 A) ([.ref a_d, .ref a_me, .int x1, .int x2] : List Value).toArray s 0 0 A) (F0 m 125 ls [.int m_125]) := by
              intro m_125 em_125 H locs hP hD hS ls hl
              have zm_125_0 : m_125 = 0 ∨ m_125 = 1 := by rw [em_125]; (try dsimp only); (repeat' split) <;> first | exact Or.inl rfl | exact Or.inr rfl
              refine lv_istore (lv' := [(6, .int m_125), (0, .ref a_d), (1, .ref a_me), (2, .int x1), (3, .int x2), (4, .int x_5), (5, .int x_16), (7, .int w_45.2.2), (8, .int r_72)]) hx hb dX1_take_125 hl (by decide) rfl (fun ls hl => ?_)
              obtain ⟨x_127, ex_127⟩ : ∃ z : Int32, z = w_45.2.2 + 1 := ⟨_, rfl⟩
              refine lv_iinc (v := x_127) (lv' := [(7, .int x_127), (6, .int m_125), (0, .ref a_d), (1, .ref a_me), (2, .int x1), (3, .int x2), (4, .int x_5), (5, .int x_16), (8, .int r_72)]) hx hb dX1_take_127 hl (k := 7) rfl (by rw [ex_127]; rfl) (by decide) rfl (fun ls hl => ?_)
              refine lv_goto (tgt := 45) hx hb dX1_take_130 (by decide) ?_
              exact ih (f_102, m_125, x_127) (by subst ex_127; subst em_125; subst ef_102; subst em_102; subst er_72;  exact Nat.lt_of_lt_of_le (ms_up c_52) (Nat.le_of_lt_succ hm9)) (by subst ex_127; subst em_125; subst ef_102; subst em_102; subst er_72;  exact nn_up hI9 c_52) (by rw [← hL9]; subst ex_127; subst em_125; subst ef_102; subst em_102; simp only [LX1_take_45, ← er_72, if_neg c_52, if_neg c_59]) _ _ hP hD hS ls (lv_sub hl [2, 3, 4, 5, 6, 7, 1, 0] rfl)
            refine lv_if_eq (tgt := 124) hx hb dX1_take_105 (by decide) (fun c_105 => ?_) (fun c_105 => ?_)
            · skip
              refine lv_iconst (v := 0) hx hb dX1_take_124 (by decide) ?_
              exact J_125 0 (by simp only [if_pos c_105]) _ _ hP hD hS ls (lv_sub hl [0, 1, 2, 3, 4, 5, 6, 7, 8] rfl)
            · skip
              refine lv_aload_n hx hb dX1_take_108 rfl (lv_at hl 0 rfl) ?_
              refine va_get (D := D) (ci := 1) (v := .ref a_dg) (C := RX1) (T := TX1) (N := 2) hx hb hts in_X1 hown hK hP 2 rfl rfl 0 (by decide) q_1 (fun _ h9 => h9) rfl dX1_take_109 ?_
              refine lv_iload hx hb dX1_take_112 (lv_at hl 7 rfl) ?_
              refine va_iald hx hb hK hP 3 0 rfl rfl (by first | with_reducible assumption | exact vin_of (b := 32) (by decide) (by with_reducible assumption) (by with_reducible assumption) | exact vin_of (b := 32) (by decide) (Int32.not_lt.mp (by with_reducible assumption)) (by with_reducible assumption) | exact vin_dn (by decide) (by with_reducible assumption) hI9) dX1_take_114 ?_
              refine lv_bipush (v := 9) hx hb dX1_take_115 (by decide) ?_
              refine lv_icmp_gt (tgt := 124) hx hb dX1_take_117 (by decide) (fun c_117 => ?_) (fun c_117 => ?_)
              · skip
                refine lv_iconst (v := 0) hx hb dX1_take_124 (by decide) ?_
                exact J_125 0 (by simp only [if_neg c_105, if_pos c_117]) _ _ hP hD hS ls (lv_sub hl [0, 1, 2, 3, 4, 5, 6, 7, 8] rfl)
              · skip
                refine lv_iconst (v := 1) hx hb dX1_take_120 (by decide) ?_
                refine lv_goto (tgt := 125) hx hb dX1_take_121 (by decide) ?_
                exact J_125 1 (by simp only [if_neg c_105, if_neg c_117]) _ _ hP hD hS ls (lv_sub hl [0, 1, 2, 3, 4, 5, 6, 7, 8] rfl)
          refine lv_if_ne (tgt := 97) hx hb dX1_take_87 (by decide) (fun c_87 => ?_) (fun c_87 => ?_)
          · skip
            refine lv_iload hx hb dX1_take_97 (lv_at hl 0 rfl) ?_
            refine lv_bipush (v := 15) hx hb dX1_take_99 (by decide) ?_
            refine lv_iand hx hb dX1_take_101 ?_
            exact J_102 (r_72 &&& 15) (by simp only [if_neg c_87]) _ _ hP hD hS ls (lv_sub hl [1, 2, 3, 4, 5, 6, 7, 8, 0] rfl)
          · skip
            refine lv_iload hx hb dX1_take_90 (lv_at hl 0 rfl) ?_
            refine lv_iconst (v := 4) hx hb dX1_take_92 (by decide) ?_
            refine lv_ishr hx hb dX1_take_93 ?_
            refine lv_goto (tgt := 102) hx hb dX1_take_94 (by decide) ?_
            exact J_102 (r_72 >>> (4 &&& 31)) (by simp only [if_pos c_87]) _ _ hP hD hS ls (lv_sub hl [1, 2, 3, 4, 5, 6, 7, 8, 0] rfl)
  exact lp_45 (msU ((2 * x2) - 1) 0 + 1) (u_39, r_20, 0) (Nat.lt_succ_self _) (by show (0 : Int32) ≤ 0; decide) eg_45.symm _ _ hP hD hS ls (lv_sub hl [4, 5, 6, 7, 3, 2, 1, 0] rfl)
theorem hdX1_take : yX1_take.cls = RX1 ∧ yX1_take.cls ≠ "java/lang/invoke/MethodHandle" ∧ yX1_take.cls ≠ "java/lang/invoke/VarHandle" ∧ (parseMethodDescriptor yX1_take.desc).map (fun d => d.parameters.length) = some 3 := by decide +kernel
