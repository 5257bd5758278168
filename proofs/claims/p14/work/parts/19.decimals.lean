noncomputable def fX2_demandBoth (x0 : Int32) (v_fb : Int32) (v_sb : Int32) (v_r : Int32) (v_s : Int32) (v_a : Int32) (v_b : Int32) (v_fault : Int32) (v_word : Int64) (v_kF : (Nat → Int32)) : (Int32 × Int32 × Int32) :=
  let x_10 := (v_r + 1)
  let x_23 := (v_s + 1)
  let u_42 := fX5_demand v_a x_10 x0 v_fault v_word v_kF
  let u_61 := fX5_demand v_b x_23 0 u_42 v_word v_kF
  (x_10, x_23, u_61)
abbrev wX2_demandBoth (cI cB : ClassId) (a_de a_ins a_mc a_me a_ps a_by a_ks a_rg a_d1 a_d2 a_src : Nat) (v_fb : Int32) (v_sb : Int32) (v_op : Int32) (v_i : Int32) (v_r : Int32) (v_s : Int32) (v_a : Int32) (v_b : Int32) (v_fault : Int32) (v_word : Int64) (v_kF : (Nat → Int32)) : va_W := [(a_de, .inr (2, [.ref a_mc, .ref a_ins, .ref a_me, .ref a_d1, .ref a_d2, .ref a_src, .int v_fb, .int v_sb])), (a_ins, .inr (4, [.ref a_mc, .ref a_me, .int v_op, .int v_i, .int v_r, .int v_s, .int v_a, .int v_b])), (a_mc, .inr (5, [.ref a_me, .ref a_ps, .ref a_rg, .int v_fault])), (a_me, .inr (6, [.ref a_by, .ref a_ks])), (a_ps, .inr (7, [.long v_word])), (a_ks, .inl (cI, 4, .inl v_kF))]
abbrev rmX2_demandBoth : Room := { frames := 2, cells := 0, slots := 0, locals := 49 }
abbrev qX2_demandBoth (D : va_G) (cI cB : ClassId) (a_de a_ins a_mc a_me a_ps a_by a_ks a_rg a_d1 a_d2 a_src : Nat) (v_fb : Int32) (v_sb : Int32) (v_op : Int32) (v_i : Int32) (v_r : Int32) (v_s : Int32) (v_a : Int32) (v_b : Int32) (v_fault : Int32) (v_word : Int64) (v_kF : (Nat → Int32)) (x0 : Int32) : (Nat → Prop) → Array Value → State → Outcome → State → Prop := fun A9 => va_Qv (fun (u9 : (Int32 × Int32 × Int32)) => u9 = fX2_demandBoth x0 v_fb v_sb v_r v_s v_a v_b v_fault v_word v_kF) (fun u9 t9 => atW D (TYS cI cB) A9 (wX2_demandBoth cI cB a_de a_ins a_mc a_me a_ps a_by a_ks a_rg a_d1 a_d2 a_src u9.1 u9.2.1 v_op v_i v_r v_s v_a v_b u9.2.2 v_word v_kF) t9) A9
set_option maxHeartbeats 4000000 in
set_option maxRecDepth 100000 in
theorem kX2_demandBoth (l : Launch) (D : va_G) (cI cB : ClassId) (a_de a_ins a_mc a_me a_ps a_by a_ks a_rg a_d1 a_d2 a_src : Nat) (sz : Nat) (v_fb : Int32) (v_sb : Int32) (v_op : Int32) (v_i : Int32) (v_r : Int32) (v_s : Int32) (v_a : Int32) (v_b : Int32) (v_fault : Int32) (v_word : Int64) (v_kF : (Nat → Int32)) (x0 : Int32) : MetW l yX2_demandBoth (WK yX2_demandBoth cX2_demandBoth 2 none) rmX2_demandBoth D (TYS cI cB) (wX2_demandBoth cI cB a_de a_ins a_mc a_me a_ps a_by a_ks a_rg a_d1 a_d2 a_src v_fb v_sb v_op v_i v_r v_s v_a v_b v_fault v_word v_kF) sz [.ref a_de, .int x0] (qX2_demandBoth D cI cB a_de a_ins a_mc a_me a_ps a_by a_ks a_rg a_d1 a_d2 a_src v_fb v_sb v_op v_i v_r v_s v_a v_b v_fault v_word v_kF x0) 0 0 := by
  refine met_std (by decide) rfl (Nat.le_of_ble_eq_true rfl) ?_
  intro p e s m below meth c A ls H hx hb hr hml hown hts hlocks hA hP hK hD hS hNW hl
  have hl : lv_has ls 2 [(0, .ref a_de), (1, .int x0)] := hl
  have q_0 := hts _ (List.mem_cons_of_mem _ wd_189)
  have q_1 := hts _ (List.mem_cons_of_mem _ wd_217)
  have q_2 := hts _ (List.mem_cons_of_mem _ wd_218)
  have q_3 := hts _ (List.mem_cons_of_mem _ wd_188)
  have n_0 := hNW.f (A := ([.ref a_de, .int x0] : List Value).toArray) ("MainframeCore$Decimals", 58, "MainframeCore$Instruction", "\x72", "I", "MainframeCore") (by decide +kernel)
  have n_1 := hNW.f (A := ([.ref a_de, .int x0] : List Value).toArray) ("MainframeCore$Decimals", 95, "MainframeCore$Instruction", "s", "I", "MainframeCore") (by decide +kernel)
  have n_2 := hNW.f (A := ([.ref a_de, .int x0] : List Value).toArray) ("MainframeCore$Decimals", 40, "MainframeCore$Instruction", "a", "I", "MainframeCore") (by decide +kernel)
  have n_3 := hNW.f (A := ([.ref a_de, .int x0] : List Value).toArray) ("MainframeCore$Decimals", 101, "MainframeCore$Instruction", "b", "I", "MainframeCore") (by decide +kernel)
  refine lv_aload_n hx hb dX2_demandBoth_0 rfl (lv_at hl 0 rfl) ?_
  refine lv_aload_n hx hb dX2_demandBoth_1 rfl (lv_at hl 0 rfl) ?_
  refine va_get (D := D) (ci := 2) (v := .ref a_ins) (C := RX2) (T := TX2) (N := 8) hx hb hts in_X2 hown hK hP 0 rfl rfl 1 (by decide) q_0 (fun _ h9 => h9) rfl dX2_demandBoth_2 ?_
  refine va_getN (D := D) (ci := 4) (v := .int v_r) (C := RX4) (T := TX4) (N := 8) hx hb hts in_X4 hown hK hP 1 rfl rfl 4 (by decide) n_0 (fun _ h9 => h9) rfl dX2_demandBoth_5 ?_
  refine lv_iconst (v := 1) hx hb dX2_demandBoth_8 (by decide) ?_
  refine lv_iadd hx hb dX2_demandBoth_9 ?_
  refine lv_topi (fun x_10 ex_10 => ?_)
  refine va_put (D := D) (ci := 2) (v := .int x_10) (ty := .int) (C := RX2) (T := TX2) (N := 8) hx hb hts in_X2 tyX2 tyX2_ok nmX2 hown hK hP hD hS 0 rfl rfl 6 (by decide) q_1 (fun _ h9 => h9) rfl (by decide +kernel) rfl rfl (Nat.le_of_ble_eq_true rfl) dX2_demandBoth_10 (fun H locs hP hD hS => ?_)
  have hP : va_P D vwCl (wX2_demandBoth cI cB a_de a_ins a_mc a_me a_ps a_by a_ks a_rg a_d1 a_d2 a_src x_10 v_sb v_op v_i v_r v_s v_a v_b v_fault v_word v_kF) H := hP
  have hD : va_D A (wX2_demandBoth cI cB a_de a_ins a_mc a_me a_ps a_by a_ks a_rg a_d1 a_d2 a_src x_10 v_sb v_op v_i v_r v_s v_a v_b v_fault v_word v_kF) := hD
  refine lv_aload_n hx hb dX2_demandBoth_13 rfl (lv_at hl 0 rfl) ?_
  refine lv_aload_n hx hb dX2_demandBoth_14 rfl (lv_at hl 0 rfl) ?_
  refine va_get (D := D) (ci := 2) (v := .ref a_ins) (C := RX2) (T := TX2) (N := 8) hx hb hts in_X2 hown hK hP 0 rfl rfl 1 (by decide) q_0 (fun _ h9 => h9) rfl dX2_demandBoth_15 ?_
  refine va_getN (D := D) (ci := 4) (v := .int v_s) (C := RX4) (T := TX4) (N := 8) hx hb hts in_X4 hown hK hP 1 rfl rfl 5 (by decide) n_1 (fun _ h9 => h9) rfl dX2_demandBoth_18 ?_
  refine lv_iconst (v := 1) hx hb dX2_demandBoth_21 (by decide) ?_
  refine lv_iadd hx hb dX2_demandBoth_22 ?_
  refine lv_topi (fun x_23 ex_23 => ?_)
  refine va_put (D := D) (ci := 2) (v := .int x_23) (ty := .int) (C := RX2) (T := TX2) (N := 8) hx hb hts in_X2 tyX2 tyX2_ok nmX2 hown hK hP hD hS 0 rfl rfl 7 (by decide) q_2 (fun _ h9 => h9) rfl (by decide +kernel) rfl rfl (Nat.le_of_ble_eq_true rfl) dX2_demandBoth_23 (fun H locs hP hD hS => ?_)
  have hP : va_P D vwCl (wX2_demandBoth cI cB a_de a_ins a_mc a_me a_ps a_by a_ks a_rg a_d1 a_d2 a_src x_10 x_23 v_op v_i v_r v_s v_a v_b v_fault v_word v_kF) H := hP
  have hD : va_D A (wX2_demandBoth cI cB a_de a_ins a_mc a_me a_ps a_by a_ks a_rg a_d1 a_d2 a_src x_10 x_23 v_op v_i v_r v_s v_a v_b v_fault v_word v_kF) := hD
  refine lv_aload_n hx hb dX2_demandBoth_26 rfl (lv_at hl 0 rfl) ?_
  refine va_get (D := D) (ci := 2) (v := .ref a_mc) (C := RX2) (T := TX2) (N := 8) hx hb hts in_X2 hown hK hP 0 rfl rfl 0 (by decide) q_3 (fun _ h9 => h9) rfl dX2_demandBoth_27 ?_
  refine lv_aload_n hx hb dX2_demandBoth_30 rfl (lv_at hl 0 rfl) ?_
  refine va_get (D := D) (ci := 2) (v := .ref a_ins) (C := RX2) (T := TX2) (N := 8) hx hb hts in_X2 hown hK hP 0 rfl rfl 1 (by decide) q_0 (fun _ h9 => h9) rfl dX2_demandBoth_31 ?_
  refine va_getN (D := D) (ci := 4) (v := .int v_a) (C := RX4) (T := TX4) (N := 8) hx hb hts in_X4 hown hK hP 1 rfl rfl 6 (by decide) n_2 (fun _ h9 => h9) rfl dX2_demandBoth_34 ?_
  refine lv_aload_n hx hb dX2_demandBoth_37 rfl (lv_at hl 0 rfl) ?_
  refine va_get (D := D) (ci := 2) (v := .int x_10) (C := RX2) (T := TX2) (N := 8) hx hb hts in_X2 hown hK hP 0 rfl rfl 6 (by decide) q_1 (fun _ h9 => h9) rfl dX2_demandBoth_38 ?_
  refine lv_iload_n hx hb dX2_demandBoth_41 rfl (lv_at hl 1 rfl) ?_
  have hPc : va_P D vwCl (wX5_demand cI cB a_mc a_me a_ps a_by a_ks a_rg v_fault v_word v_kF) H := hP.sub [2, 3, 4, 5] rfl
  have hDc : va_D A (wX5_demand cI cB a_mc a_me a_ps a_by a_ks a_rg v_fault v_word v_kF) := hD.sub [2, 3, 4, 5] (by decide) rfl
  have hFc := va_free (wc := (wX5_demand cI cB a_mc a_me a_ps a_by a_ks a_rg v_fault v_word v_kF)) hD hS hA [2, 3, 4, 5] rfl
  refine va_callv (va_runV (As := [.int v_a, .int x_10, .int x0]) (rest := []) ⟨hx, hb, hml, hown, hts⟩ (kX5_demand l D cI cB a_mc a_me a_ps a_by a_ks a_rg H.size v_fault v_word v_kF v_a x_10 x0) (cwV 3 hts (gd_V wd_197 wd_106 wd_107 wd_24 wd_93) rfl rfl rfl hdX5_demand ⟨Nat.le_of_ble_eq_true rfl, Nat.le_of_ble_eq_true rfl⟩) (preV_std (ci := 5) (q0 := 0) hPc hK hDc hNW rfl rfl) rfl rfl hl.1 rfl (lv_room (Nat.le_of_ble_eq_true rfl)) dX2_demandBoth_42 ⟨Nat.zero_le _, Nat.zero_le _⟩) hS (fun q _ h => hFc q h) hFc (fun u_42 t9 H1 locs ht9 hvm9 hw9 hB9 hz9 hk9 hS => ?_)
  have eu_42 : u_42 = fX5_demand v_a x_10 x0 v_fault v_word v_kF := hw9
  obtain ⟨hP, hD⟩ := back_std (w1 := (wX5_demand cI cB a_mc a_me a_ps a_by a_ks a_rg u_42 v_word v_kF)) (w2 := (wX2_demandBoth cI cB a_de a_ins a_mc a_me a_ps a_by a_ks a_rg a_d1 a_d2 a_src x_10 x_23 v_op v_i v_r v_s v_a v_b u_42 v_word v_kF)) (wr := [(a_de, .inr (2, [.ref a_mc, .ref a_ins, .ref a_me, .ref a_d1, .ref a_d2, .ref a_src, .int x_10, .int x_23])), (a_ins, .inr (4, [.ref a_mc, .ref a_me, .int v_op, .int v_i, .int v_r, .int v_s, .int v_a, .int v_b]))]) hP hD [2, 3, 4, 5] [0, 1] [0, 1, 2, 3, 4, 5] rfl rfl (by decide) (by decide) hk9 hFc hB9 ht9 (by decide) rfl
  clear hB9 hk9 hz9 hvm9 ht9 hFc hPc hDc
  generalize H1 = H at hP hS ⊢
  refine lv_aload_n hx hb dX2_demandBoth_45 rfl (lv_at hl 0 rfl) ?_
  refine va_get (D := D) (ci := 2) (v := .ref a_mc) (C := RX2) (T := TX2) (N := 8) hx hb hts in_X2 hown hK hP 0 rfl rfl 0 (by decide) q_3 (fun _ h9 => h9) rfl dX2_demandBoth_46 ?_
  refine lv_aload_n hx hb dX2_demandBoth_49 rfl (lv_at hl 0 rfl) ?_
  refine va_get (D := D) (ci := 2) (v := .ref a_ins) (C := RX2) (T := TX2) (N := 8) hx hb hts in_X2 hown hK hP 0 rfl rfl 1 (by decide) q_0 (fun _ h9 => h9) rfl dX2_demandBoth_50 ?_
  refine va_getN (D := D) (ci := 4) (v := .int v_b) (C := RX4) (T := TX4) (N := 8) hx hb hts in_X4 hown hK hP 1 rfl rfl 7 (by decide) n_3 (fun _ h9 => h9) rfl dX2_demandBoth_53 ?_
  refine lv_aload_n hx hb dX2_demandBoth_56 rfl (lv_at hl 0 rfl) ?_
  refine va_get (D := D) (ci := 2) (v := .int x_23) (C := RX2) (T := TX2) (N := 8) hx hb hts in_X2 hown hK hP 0 rfl rfl 7 (by decide) q_2 (fun _ h9 => h9) rfl dX2_demandBoth_57 ?_
  refine lv_iconst (v := 0) hx hb dX2_demandBoth_60 (by decide) ?_
  have hPc : va_P D vwCl (wX5_demand cI cB a_mc a_me a_ps a_by a_ks a_rg u_42 v_word v_kF) H := hP.sub [2, 3, 4, 5] rfl
  have hDc : va_D A (wX5_demand cI cB a_mc a_me a_ps a_by a_ks a_rg u_42 v_word v_kF) := hD.sub [2, 3, 4, 5] (by decide) rfl
  have hFc := va_free (wc := (wX5_demand cI cB a_mc a_me a_ps a_by a_ks a_rg u_42 v_word v_kF)) hD hS hA [2, 3, 4, 5] rfl
  refine va_callv (va_runV (As := [.int v_b, .int x_23, .int 0]) (rest := []) ⟨hx, hb, hml, hown, hts⟩ (kX5_demand l D cI cB a_mc a_me a_ps a_by a_ks a_rg H.size u_42 v_word v_kF v_b x_23 0) (cwV 3 hts (gd_V wd_197 wd_106 wd_107 wd_24 wd_93) rfl rfl rfl hdX5_demand ⟨Nat.le_of_ble_eq_true rfl, Nat.le_of_ble_eq_true rfl⟩) (preV_std (ci := 5) (q0 := 0) hPc hK hDc hNW rfl rfl) rfl rfl hl.1 rfl (lv_room (Nat.le_of_ble_eq_true rfl)) dX2_demandBoth_61 ⟨Nat.zero_le _, Nat.zero_le _⟩) hS (fun q _ h => hFc q h) hFc (fun u_61 t9 H1 locs ht9 hvm9 hw9 hB9 hz9 hk9 hS => ?_)
  have eu_61 : u_61 = fX5_demand v_b x_23 0 u_42 v_word v_kF := hw9
  obtain ⟨hP, hD⟩ := back_std (w1 := (wX5_demand cI cB a_mc a_me a_ps a_by a_ks a_rg u_61 v_word v_kF)) (w2 := (wX2_demandBoth cI cB a_de a_ins a_mc a_me a_ps a_by a_ks a_rg a_d1 a_d2 a_src x_10 x_23 v_op v_i v_r v_s v_a v_b u_61 v_word v_kF)) (wr := [(a_de, .inr (2, [.ref a_mc, .ref a_ins, .ref a_me, .ref a_d1, .ref a_d2, .ref a_src, .int x_10, .int x_23])), (a_ins, .inr (4, [.ref a_mc, .ref a_me, .int v_op, .int v_i, .int v_r, .int v_s, .int v_a, .int v_b]))]) hP hD [2, 3, 4, 5] [0, 1] [0, 1, 2, 3, 4, 5] rfl rfl (by decide) (by decide) hk9 hFc hB9 ht9 (by decide) rfl
  clear hB9 hk9 hz9 hvm9 ht9 hFc hPc hDc
  generalize H1 = H at hP hS ⊢
  have hf9 : (x_10, x_23, u_61) = fX2_demandBoth x0 v_fb v_sb v_r v_s v_a v_b v_fault v_word v_kF := by subst ex_23; subst ex_10; simp only [fX2_demandBoth, ← eu_42, ← eu_61]
  exact W.vret hx hb hr (fun t9 ht9 hW9 => ⟨⟨(x_10, x_23, u_61), rfl, hf9, ⟨by rw [ht9]; exact hP, va_K.moved hW9.alike hK, hD⟩⟩, hS.F ht9⟩) hS.2.2 dX2_demandBoth_64
theorem hdX2_demandBoth : yX2_demandBoth.cls = RX2 ∧ yX2_demandBoth.cls ≠ "java/lang/invoke/MethodHandle" ∧ yX2_demandBoth.cls ≠ "java/lang/invoke/VarHandle" ∧ (parseMethodDescriptor yX2_demandBoth.desc).map (fun d => d.parameters.length) = some 1 := by decide +kernel
noncomputable def fX2_fromRegister (v_r : Int32) (v_a : Int32) (v_fault : Int32) (v_word : Int64) (v_bF : (Nat → Int32)) (v_kF : (Nat → Int32)) (v_rF : (Nat → Int32)) (v_below1 : Int32) (v_dF1 : (Nat → Int32)) : (Int32 × (Nat → Int32) × Int32 × (Nat → Int32)) :=
  let u_14 := fX5_demand v_a 8 1 v_fault v_word v_kF
  let u_30 := fX5_demandAligned v_a 8 u_14
  let r_37 := fX5_fine u_30
  if r_37 = 0 then ((u_30, v_bF, v_below1, v_dF1)) else (let r_58 := fX5_reg v_r v_rF; let u_62 := fX1_setNumber ((r_58 : Int32).toInt64) v_below1 v_dF1; let u_82 := fX1_give v_a 8 v_bF u_62.1 u_62.2; (u_30, u_82, u_62.1, u_62.2))
abbrev wX2_fromRegister (cI cB : ClassId) (a_de a_ins a_mc a_me a_ps a_by a_ks a_rg a_d1 a_dg1 a_d2 a_src : Nat) (v_fb : Int32) (v_sb : Int32) (v_op : Int32) (v_i : Int32) (v_r : Int32) (v_s : Int32) (v_a : Int32) (v_b : Int32) (v_fault : Int32) (v_word : Int64) (v_bF : (Nat → Int32)) (v_kF : (Nat → Int32)) (v_rF : (Nat → Int32)) (v_below1 : Int32) (v_dF1 : (Nat → Int32)) : va_W := [(a_de, .inr (2, [.ref a_mc, .ref a_ins, .ref a_me, .ref a_d1, .ref a_d2, .ref a_src, .int v_fb, .int v_sb])), (a_ins, .inr (4, [.ref a_mc, .ref a_me, .int v_op, .int v_i, .int v_r, .int v_s, .int v_a, .int v_b])), (a_mc, .inr (5, [.ref a_me, .ref a_ps, .ref a_rg, .int v_fault])), (a_me, .inr (6, [.ref a_by, .ref a_ks])), (a_ps, .inr (7, [.long v_word])), (a_by, .inl (cB, 8192, .inl v_bF)), (a_ks, .inl (cI, 4, .inl v_kF)), (a_rg, .inl (cI, 16, .inl v_rF)), (a_d1, .inr (1, [.ref a_dg1, .int v_below1])), (a_dg1, .inl (cI, 32, .inl v_dF1))]
abbrev rmX2_fromRegister : Room := { frames := 2, cells := 0, slots := 0, locals := 49 }
abbrev qX2_fromRegister (D : va_G) (cI cB : ClassId) (a_de a_ins a_mc a_me a_ps a_by a_ks a_rg a_d1 a_dg1 a_d2 a_src : Nat) (v_fb : Int32) (v_sb : Int32) (v_op : Int32) (v_i : Int32) (v_r : Int32) (v_s : Int32) (v_a : Int32) (v_b : Int32) (v_fault : Int32) (v_word : Int64) (v_bF : (Nat → Int32)) (v_kF : (Nat → Int32)) (v_rF : (Nat → Int32)) (v_below1 : Int32) (v_dF1 : (Nat → Int32)) : (Nat → Prop) → Array Value → State → Outcome → State → Prop := fun A9 => va_Qv (fun (u9 : (Int32 × (Nat → Int32) × Int32 × (Nat → Int32))) => u9 = fX2_fromRegister v_r v_a v_fault v_word v_bF v_kF v_rF v_below1 v_dF1) (fun u9 t9 => atW D (TYS cI cB) A9 (wX2_fromRegister cI cB a_de a_ins a_mc a_me a_ps a_by a_ks a_rg a_d1 a_dg1 a_d2 a_src v_fb v_sb v_op v_i v_r v_s v_a v_b u9.1 v_word u9.2.1 v_kF v_rF u9.2.2.1 u9.2.2.2) t9) A9
set_option maxHeartbeats 4000000 in
set_option maxRecDepth 100000 in
theorem kX2_fromRegister (l : Launch) (D : va_G) (cI cB : ClassId) (a_de a_ins a_mc a_me a_ps a_by a_ks a_rg a_d1 a_dg1 a_d2 a_src : Nat) (sz : Nat) (v_fb : Int32) (v_sb : Int32) (v_op : Int32) (v_i : Int32) (v_r : Int32) (v_s : Int32) (v_a : Int32) (v_b : Int32) (v_fault : Int32) (v_word : Int64) (v_bF : (Nat → Int32)) (v_kF : (Nat → Int32)) (v_rF : (Nat → Int32)) (v_below1 : Int32) (v_dF1 : (Nat → Int32)) : MetW l yX2_fromRegister (WK yX2_fromRegister cX2_fromRegister 1 none) rmX2_fromRegister D (TYS cI cB) (wX2_fromRegister cI cB a_de a_ins a_mc a_me a_ps a_by a_ks a_rg a_d1 a_dg1 a_d2 a_src v_fb v_sb v_op v_i v_r v_s v_a v_b v_fault v_word v_bF v_kF v_rF v_below1 v_dF1) sz [.ref a_de] (qX2_fromRegister D cI cB a_de a_ins a_mc a_me a_ps a_by a_ks a_rg a_d1 a_dg1 a_d2 a_src v_fb v_sb v_op v_i v_r v_s v_a v_b v_fault v_word v_bF v_kF v_rF v_below1 v_dF1) 0 0 := by
  refine met_std (by decide) rfl (Nat.le_of_ble_eq_true rfl) ?_
  intro p e s m below meth c A ls H hx hb hr hml hown hts hlocks hA hP hK hD hS hNW hl
  have hl : lv_has ls 1 [(0, .ref a_de)] := hl
  have q_0 := hts _ (List.mem_cons_of_mem _ wd_188)
  have q_1 := hts _ (List.mem_cons_of_mem _ wd_189)
  have q_2 := hts _ (List.mem_cons_of_mem _ wd_193)
  have q_3 := hts _ (List.mem_cons_of_mem _ wd_190)
  have n_0 := hNW.f (A := ([.ref a_de] : List Value).toArray) ("MainframeCore$Decimals", 40, "MainframeCore$Instruction", "a", "I", "MainframeCore") (by decide +kernel)
  have n_1 := hNW.f (A := ([.ref a_de] : List Value).toArray) ("MainframeCore$Decimals", 58, "MainframeCore$Instruction", "\x72", "I", "MainframeCore") (by decide +kernel)
  refine lv_aload_n hx hb dX2_fromRegister_0 rfl (lv_at hl 0 rfl) ?_
  refine va_get (D := D) (ci := 2) (v := .ref a_mc) (C := RX2) (T := TX2) (N := 8) hx hb hts in_X2 hown hK hP 0 rfl rfl 0 (by decide) q_0 (fun _ h9 => h9) rfl dX2_fromRegister_1 ?_
  refine lv_aload_n hx hb dX2_fromRegister_4 rfl (lv_at hl 0 rfl) ?_
  refine va_get (D := D) (ci := 2) (v := .ref a_ins) (C := RX2) (T := TX2) (N := 8) hx hb hts in_X2 hown hK hP 0 rfl rfl 1 (by decide) q_1 (fun _ h9 => h9) rfl dX2_fromRegister_5 ?_
  refine va_getN (D := D) (ci := 4) (v := .int v_a) (C := RX4) (T := TX4) (N := 8) hx hb hts in_X4 hown hK hP 1 rfl rfl 6 (by decide) n_0 (fun _ h9 => h9) rfl dX2_fromRegister_8 ?_
  refine lv_bipush (v := 8) hx hb dX2_fromRegister_11 (by decide) ?_
  refine lv_iconst (v := 1) hx hb dX2_fromRegister_13 (by decide) ?_
  have hPc : va_P D vwCl (wX5_demand cI cB a_mc a_me a_ps a_by a_ks a_rg v_fault v_word v_kF) H := hP.sub [2, 3, 4, 6] rfl
  have hDc : va_D A (wX5_demand cI cB a_mc a_me a_ps a_by a_ks a_rg v_fault v_word v_kF) := hD.sub [2, 3, 4, 6] (by decide) rfl
  have hFc := va_free (wc := (wX5_demand cI cB a_mc a_me a_ps a_by a_ks a_rg v_fault v_word v_kF)) hD hS hA [2, 3, 4, 6] rfl
  refine va_callv (va_runV (As := [.int v_a, .int 8, .int 1]) (rest := []) ⟨hx, hb, hml, hown, hts⟩ (kX5_demand l D cI cB a_mc a_me a_ps a_by a_ks a_rg H.size v_fault v_word v_kF v_a 8 1) (cwV 3 hts (gd_V wd_197 wd_106 wd_107 wd_24 wd_93) rfl rfl rfl hdX5_demand ⟨Nat.le_of_ble_eq_true rfl, Nat.le_of_ble_eq_true rfl⟩) (preV_std (ci := 5) (q0 := 0) hPc hK hDc hNW rfl rfl) rfl rfl hl.1 rfl (lv_room (Nat.le_of_ble_eq_true rfl)) dX2_fromRegister_14 ⟨Nat.zero_le _, Nat.zero_le _⟩) hS (fun q _ h => hFc q h) hFc (fun u_14 t9 H1 locs ht9 hvm9 hw9 hB9 hz9 hk9 hS => ?_)
  have eu_14 : u_14 = fX5_demand v_a 8 1 v_fault v_word v_kF := hw9
  obtain ⟨hP, hD⟩ := back_std (w1 := (wX5_demand cI cB a_mc a_me a_ps a_by a_ks a_rg u_14 v_word v_kF)) (w2 := (wX2_fromRegister cI cB a_de a_ins a_mc a_me a_ps a_by a_ks a_rg a_d1 a_dg1 a_d2 a_src v_fb v_sb v_op v_i v_r v_s v_a v_b u_14 v_word v_bF v_kF v_rF v_below1 v_dF1)) (wr := [(a_de, .inr (2, [.ref a_mc, .ref a_ins, .ref a_me, .ref a_d1, .ref a_d2, .ref a_src, .int v_fb, .int v_sb])), (a_ins, .inr (4, [.ref a_mc, .ref a_me, .int v_op, .int v_i, .int v_r, .int v_s, .int v_a, .int v_b])), (a_by, .inl (cB, 8192, .inl v_bF)), (a_rg, .inl (cI, 16, .inl v_rF)), (a_d1, .inr (1, [.ref a_dg1, .int v_below1])), (a_dg1, .inl (cI, 32, .inl v_dF1))]) hP hD [2, 3, 4, 6] [0, 1, 5, 7, 8, 9] [0, 1, 6, 7, 8, 2, 9, 3, 4, 5] rfl rfl (by decide) (by decide) hk9 hFc hB9 ht9 (by decide) rfl
  clear hB9 hk9 hz9 hvm9 ht9 hFc hPc hDc
  generalize H1 = H at hP hS ⊢
  refine lv_aload_n hx hb dX2_fromRegister_17 rfl (lv_at hl 0 rfl) ?_
  refine va_get (D := D) (ci := 2) (v := .ref a_mc) (C := RX2) (T := TX2) (N := 8) hx hb hts in_X2 hown hK hP 0 rfl rfl 0 (by decide) q_0 (fun _ h9 => h9) rfl dX2_fromRegister_18 ?_
  refine lv_aload_n hx hb dX2_fromRegister_21 rfl (lv_at hl 0 rfl) ?_
  refine va_get (D := D) (ci := 2) (v := .ref a_ins) (C := RX2) (T := TX2) (N := 8) hx hb hts in_X2 hown hK hP 0 rfl rfl 1 (by decide) q_1 (fun _ h9 => h9) rfl dX2_fromRegister_22 ?_
  refine va_getN (D := D) (ci := 4) (v := .int v_a) (C := RX4) (T := TX4) (N := 8) hx hb hts in_X4 hown hK hP 1 rfl rfl 6 (by decide) n_0 (fun _ h9 => h9) rfl dX2_fromRegister_25 ?_
  refine lv_bipush (v := 8) hx hb dX2_fromRegister_28 (by decide) ?_
  have hPc : va_P D vwCl (wX5_demandAligned cI cB a_mc a_me a_ps a_rg u_14) H := hP.sub [2] rfl
  have hDc : va_D A (wX5_demandAligned cI cB a_mc a_me a_ps a_rg u_14) := hD.sub [2] (by decide) rfl
  have hFc := va_free (wc := (wX5_demandAligned cI cB a_mc a_me a_ps a_rg u_14)) hD hS hA [2] rfl
  refine va_callv (va_runV (As := [.int v_a, .int 8]) (rest := []) ⟨hx, hb, hml, hown, hts⟩ (kX5_demandAligned l D cI cB a_mc a_me a_ps a_rg H.size u_14 v_a 8) (cwV 2 hts (gd_V wd_198 wd_62 wd_63 wd_24 wd_56) rfl rfl rfl hdX5_demandAligned ⟨Nat.le_of_ble_eq_true rfl, Nat.le_of_ble_eq_true rfl⟩) (preV_std (ci := 5) (q0 := 0) hPc hK hDc hNW rfl rfl) rfl rfl hl.1 rfl (lv_room (Nat.le_of_ble_eq_true rfl)) dX2_fromRegister_30 ⟨Nat.zero_le _, Nat.zero_le _⟩) hS (fun q _ h => hFc q h) hFc (fun u_30 t9 H1 locs ht9 hvm9 hw9 hB9 hz9 hk9 hS => ?_)
  have eu_30 : u_30 = fX5_demandAligned v_a 8 u_14 := hw9
  obtain ⟨hP, hD⟩ := back_std (w1 := (wX5_demandAligned cI cB a_mc a_me a_ps a_rg u_30)) (w2 := (wX2_fromRegister cI cB a_de a_ins a_mc a_me a_ps a_by a_ks a_rg a_d1 a_dg1 a_d2 a_src v_fb v_sb v_op v_i v_r v_s v_a v_b u_30 v_word v_bF v_kF v_rF v_below1 v_dF1)) (wr := [(a_de, .inr (2, [.ref a_mc, .ref a_ins, .ref a_me, .ref a_d1, .ref a_d2, .ref a_src, .int v_fb, .int v_sb])), (a_ins, .inr (4, [.ref a_mc, .ref a_me, .int v_op, .int v_i, .int v_r, .int v_s, .int v_a, .int v_b])), (a_me, .inr (6, [.ref a_by, .ref a_ks])), (a_ps, .inr (7, [.long v_word])), (a_by, .inl (cB, 8192, .inl v_bF)), (a_ks, .inl (cI, 4, .inl v_kF)), (a_rg, .inl (cI, 16, .inl v_rF)), (a_d1, .inr (1, [.ref a_dg1, .int v_below1])), (a_dg1, .inl (cI, 32, .inl v_dF1))]) hP hD [2] [0, 1, 3, 4, 5, 6, 7, 8, 9] [0, 1, 9, 2, 3, 4, 5, 6, 7, 8] rfl rfl (by decide) (by decide) hk9 hFc hB9 ht9 (by decide) rfl
  clear hB9 hk9 hz9 hvm9 ht9 hFc hPc hDc
  generalize H1 = H at hP hS ⊢
  refine lv_aload_n hx hb dX2_fromRegister_33 rfl (lv_at hl 0 rfl) ?_
  refine va_get (D := D) (ci := 2) (v := .ref a_mc) (C := RX2) (T := TX2) (N := 8) hx hb hts in_X2 hown hK hP 0 rfl rfl 0 (by decide) q_0 (fun _ h9 => h9) rfl dX2_fromRegister_34 ?_
  have hPc : va_P D vwCl (wX5_fine cI cB a_mc a_me a_ps a_rg u_30) H := hP.sub [2] rfl
  have hDc : va_D A (wX5_fine cI cB a_mc a_me a_ps a_rg u_30) := hD.sub [2] (by decide) rfl
  have hFc := va_free (wc := (wX5_fine cI cB a_mc a_me a_ps a_rg u_30)) hD hS hA [2] rfl
  refine va_calli (va_runV (As := []) (rest := []) ⟨hx, hb, hml, hown, hts⟩ (kX5_fine l D cI cB a_mc a_me a_ps a_rg H.size u_30 ) (cwV 0 hts (gd_V wd_199 wd_73 wd_74 wd_24 wd_66) rfl rfl rfl hdX5_fine ⟨Nat.le_of_ble_eq_true rfl, Nat.le_of_ble_eq_true rfl⟩) (preV_std (ci := 5) (q0 := 0) hPc hK hDc hNW rfl rfl) rfl rfl hl.1 rfl (lv_room (Nat.le_of_ble_eq_true rfl)) dX2_fromRegister_37 ⟨Nat.zero_le _, Nat.zero_le _⟩) hS (fun q _ h => hFc q h) hFc (fun r_37 u_37 t9 H1 locs ht9 hvm9 hw9 hB9 hz9 hk9 hS => ?_)
  have er_37 : r_37 = fX5_fine u_30 := hw9
  have zr_37 : r_37 = 0 ∨ r_37 = 1 := by rw [er_37]; exact zX5_fine _
  obtain ⟨hP, hD⟩ := back_std (w1 := (wX5_fine cI cB a_mc a_me a_ps a_rg u_30)) (w2 := (wX2_fromRegister cI cB a_de a_ins a_mc a_me a_ps a_by a_ks a_rg a_d1 a_dg1 a_d2 a_src v_fb v_sb v_op v_i v_r v_s v_a v_b u_30 v_word v_bF v_kF v_rF v_below1 v_dF1)) (wr := [(a_de, .inr (2, [.ref a_mc, .ref a_ins, .ref a_me, .ref a_d1, .ref a_d2, .ref a_src, .int v_fb, .int v_sb])), (a_ins, .inr (4, [.ref a_mc, .ref a_me, .int v_op, .int v_i, .int v_r, .int v_s, .int v_a, .int v_b])), (a_me, .inr (6, [.ref a_by, .ref a_ks])), (a_ps, .inr (7, [.long v_word])), (a_by, .inl (cB, 8192, .inl v_bF)), (a_ks, .inl (cI, 4, .inl v_kF)), (a_rg, .inl (cI, 16, .inl v_rF)), (a_d1, .inr (1, [.ref a_dg1, .int v_below1])), (a_dg1, .inl (cI, 32, .inl v_dF1))]) hP hD [2] [0, 1, 3, 4, 5, 6, 7, 8, 9] [0, 1, 9, 2, 3, 4, 5, 6, 7, 8] rfl rfl (by decide) (by decide) hk9 hFc hB9 ht9 (by decide) rfl
  clear hB9 hk9 hz9 hvm9 ht9 hFc hPc hDc
  generalize H1 = H at hP hS ⊢
  refine lv_if_eq (tgt := 85) hx hb dX2_fromRegister_40 (by decide) (fun c_40 => ?_) (fun c_40 => ?_)
  · skip
    have hf9 : (u_30, v_bF, v_below1, v_dF1) = fX2_fromRegister v_r v_a v_fault v_word v_bF v_kF v_rF v_below1 v_dF1 := by simp only [fX2_fromRegister, ← eu_14, ← eu_30, ← er_37]; (try simp only [if_pos c_40])
    exact W.vret hx hb hr (fun t9 ht9 hW9 => ⟨⟨(u_30, v_bF, v_below1, v_dF1), rfl, hf9, ⟨by rw [ht9]; exact hP, va_K.moved hW9.alike hK, hD⟩⟩, hS.F ht9⟩) hS.2.2 dX2_fromRegister_85
  · skip
    refine lv_aload_n hx hb dX2_fromRegister_43 rfl (lv_at hl 0 rfl) ?_
    refine va_get (D := D) (ci := 2) (v := .ref a_d1) (C := RX2) (T := TX2) (N := 8) hx hb hts in_X2 hown hK hP 0 rfl rfl 3 (by decide) q_2 (fun _ h9 => h9) rfl dX2_fromRegister_44 ?_
    refine lv_aload_n hx hb dX2_fromRegister_47 rfl (lv_at hl 0 rfl) ?_
    refine va_get (D := D) (ci := 2) (v := .ref a_mc) (C := RX2) (T := TX2) (N := 8) hx hb hts in_X2 hown hK hP 0 rfl rfl 0 (by decide) q_0 (fun _ h9 => h9) rfl dX2_fromRegister_48 ?_
    refine lv_aload_n hx hb dX2_fromRegister_51 rfl (lv_at hl 0 rfl) ?_
    refine va_get (D := D) (ci := 2) (v := .ref a_ins) (C := RX2) (T := TX2) (N := 8) hx hb hts in_X2 hown hK hP 0 rfl rfl 1 (by decide) q_1 (fun _ h9 => h9) rfl dX2_fromRegister_52 ?_
    refine va_getN (D := D) (ci := 4) (v := .int v_r) (C := RX4) (T := TX4) (N := 8) hx hb hts in_X4 hown hK hP 1 rfl rfl 4 (by decide) n_1 (fun _ h9 => h9) rfl dX2_fromRegister_55 ?_
    have hPc : va_P D vwCl (wX5_reg cI cB a_mc a_me a_ps a_rg u_30 v_rF) H := hP.sub [2, 7] rfl
    have hDc : va_D A (wX5_reg cI cB a_mc a_me a_ps a_rg u_30 v_rF) := hD.sub [2, 7] (by decide) rfl
    have hFc := va_free (wc := (wX5_reg cI cB a_mc a_me a_ps a_rg u_30 v_rF)) hD hS hA [2, 7] rfl
    refine va_calli (va_runV (As := [.int v_r]) (rest := [.ref a_d1]) ⟨hx, hb, hml, hown, hts⟩ (kX5_reg l D cI cB a_mc a_me a_ps a_rg H.size u_30 v_rF v_r) (cwV 1 hts (gd_V wd_200 wd_31 wd_32 wd_24 wd_29) rfl rfl rfl hdX5_reg ⟨Nat.le_of_ble_eq_true rfl, Nat.le_of_ble_eq_true rfl⟩) (preV_std (ci := 5) (q0 := 0) hPc hK hDc hNW rfl rfl) rfl rfl hl.1 rfl (lv_room (Nat.le_of_ble_eq_true rfl)) dX2_fromRegister_58 ⟨Nat.zero_le _, Nat.zero_le _⟩) hS (fun q _ h => hFc q h) hFc (fun r_58 u_58 t9 H1 locs ht9 hvm9 hw9 hB9 hz9 hk9 hS => ?_)
    have er_58 : r_58 = fX5_reg v_r v_rF := hw9
    obtain ⟨hP, hD⟩ := back_std (w1 := (wX5_reg cI cB a_mc a_me a_ps a_rg u_30 v_rF)) (w2 := (wX2_fromRegister cI cB a_de a_ins a_mc a_me a_ps a_by a_ks a_rg a_d1 a_dg1 a_d2 a_src v_fb v_sb v_op v_i v_r v_s v_a v_b u_30 v_word v_bF v_kF v_rF v_below1 v_dF1)) (wr := [(a_de, .inr (2, [.ref a_mc, .ref a_ins, .ref a_me, .ref a_d1, .ref a_d2, .ref a_src, .int v_fb, .int v_sb])), (a_ins, .inr (4, [.ref a_mc, .ref a_me, .int v_op, .int v_i, .int v_r, .int v_s, .int v_a, .int v_b])), (a_me, .inr (6, [.ref a_by, .ref a_ks])), (a_ps, .inr (7, [.long v_word])), (a_by, .inl (cB, 8192, .inl v_bF)), (a_ks, .inl (cI, 4, .inl v_kF)), (a_d1, .inr (1, [.ref a_dg1, .int v_below1])), (a_dg1, .inl (cI, 32, .inl v_dF1))]) hP hD [2, 7] [0, 1, 3, 4, 5, 6, 8, 9] [0, 1, 8, 2, 3, 4, 5, 9, 6, 7] rfl rfl (by decide) (by decide) hk9 hFc hB9 ht9 (by decide) rfl
    clear hB9 hk9 hz9 hvm9 ht9 hFc hPc hDc
    generalize H1 = H at hP hS ⊢
    refine lv_i2l hx hb dX2_fromRegister_61 rfl ?_
    have hPc : va_P D vwCl (wX1_setNumber cI cB a_d1 a_dg1 v_below1 v_dF1) H := hP.sub [8, 9] rfl
    have hDc : va_D A (wX1_setNumber cI cB a_d1 a_dg1 v_below1 v_dF1) := hD.sub [8, 9] (by decide) rfl
    have hFc := va_free (wc := (wX1_setNumber cI cB a_d1 a_dg1 v_below1 v_dF1)) hD hS hA [8, 9] rfl
    refine va_callv (va_runV (As := [.long (r_58 : Int32).toInt64]) (rest := []) ⟨hx, hb, hml, hown, hts⟩ (kX1_setNumber l D cI cB a_d1 a_dg1 H.size v_below1 v_dF1 ((r_58 : Int32).toInt64)) (cwV 1 hts (gd_V wd_201 wd_202 wd_203 wd_138 wd_162) rfl rfl rfl hdX1_setNumber ⟨Nat.le_of_ble_eq_true rfl, Nat.le_of_ble_eq_true rfl⟩) (preV_std (ci := 1) (q0 := 0) hPc hK hDc hNW rfl rfl) rfl rfl hl.1 rfl (lv_room (Nat.le_of_ble_eq_true rfl)) dX2_fromRegister_62 ⟨Nat.zero_le _, Nat.zero_le _⟩) hS (fun q _ h => hFc q h) hFc (fun u_62 t9 H1 locs ht9 hvm9 hw9 hB9 hz9 hk9 hS => ?_)
    have eu_62 : u_62 = fX1_setNumber ((r_58 : Int32).toInt64) v_below1 v_dF1 := hw9
    obtain ⟨hP, hD⟩ := back_std (w1 := (wX1_setNumber cI cB a_d1 a_dg1 u_62.1 u_62.2)) (w2 := (wX2_fromRegister cI cB a_de a_ins a_mc a_me a_ps a_by a_ks a_rg a_d1 a_dg1 a_d2 a_src v_fb v_sb v_op v_i v_r v_s v_a v_b u_30 v_word v_bF v_kF v_rF u_62.1 u_62.2)) (wr := [(a_de, .inr (2, [.ref a_mc, .ref a_ins, .ref a_me, .ref a_d1, .ref a_d2, .ref a_src, .int v_fb, .int v_sb])), (a_ins, .inr (4, [.ref a_mc, .ref a_me, .int v_op, .int v_i, .int v_r, .int v_s, .int v_a, .int v_b])), (a_mc, .inr (5, [.ref a_me, .ref a_ps, .ref a_rg, .int u_30])), (a_me, .inr (6, [.ref a_by, .ref a_ks])), (a_ps, .inr (7, [.long v_word])), (a_by, .inl (cB, 8192, .inl v_bF)), (a_ks, .inl (cI, 4, .inl v_kF)), (a_rg, .inl (cI, 16, .inl v_rF))]) hP hD [8, 9] [0, 1, 2, 3, 4, 5, 6, 7] [0, 1, 2, 3, 4, 5, 6, 7, 8, 9] rfl rfl (by decide) (by decide) hk9 hFc hB9 ht9 (by decide) rfl
    clear hB9 hk9 hz9 hvm9 ht9 hFc hPc hDc
    generalize H1 = H at hP hS ⊢
    refine lv_aload_n hx hb dX2_fromRegister_65 rfl (lv_at hl 0 rfl) ?_
    refine va_get (D := D) (ci := 2) (v := .ref a_d1) (C := RX2) (T := TX2) (N := 8) hx hb hts in_X2 hown hK hP 0 rfl rfl 3 (by decide) q_2 (fun _ h9 => h9) rfl dX2_fromRegister_66 ?_
    refine lv_aload_n hx hb dX2_fromRegister_69 rfl (lv_at hl 0 rfl) ?_
    refine va_get (D := D) (ci := 2) (v := .ref a_me) (C := RX2) (T := TX2) (N := 8) hx hb hts in_X2 hown hK hP 0 rfl rfl 2 (by decide) q_3 (fun _ h9 => h9) rfl dX2_fromRegister_70 ?_
    refine lv_aload_n hx hb dX2_fromRegister_73 rfl (lv_at hl 0 rfl) ?_
    refine va_get (D := D) (ci := 2) (v := .ref a_ins) (C := RX2) (T := TX2) (N := 8) hx hb hts in_X2 hown hK hP 0 rfl rfl 1 (by decide) q_1 (fun _ h9 => h9) rfl dX2_fromRegister_74 ?_
    refine va_getN (D := D) (ci := 4) (v := .int v_a) (C := RX4) (T := TX4) (N := 8) hx hb hts in_X4 hown hK hP 1 rfl rfl 6 (by decide) n_0 (fun _ h9 => h9) rfl dX2_fromRegister_77 ?_
    refine lv_bipush (v := 8) hx hb dX2_fromRegister_80 (by decide) ?_
    have hPc : va_P D vwCl (wX1_give cI cB a_me a_by a_ks a_d1 a_dg1 v_bF u_62.1 u_62.2) H := hP.sub [3, 5, 8, 9] rfl
    have hDc : va_D A (wX1_give cI cB a_me a_by a_ks a_d1 a_dg1 v_bF u_62.1 u_62.2) := hD.sub [3, 5, 8, 9] (by decide) rfl
    have hFc := va_free (wc := (wX1_give cI cB a_me a_by a_ks a_d1 a_dg1 v_bF u_62.1 u_62.2)) hD hS hA [3, 5, 8, 9] rfl
    refine va_callv (va_runV (As := [.ref a_me, .int v_a, .int 8]) (rest := []) ⟨hx, hb, hml, hown, hts⟩ (kX1_give l D cI cB a_me a_by a_ks a_d1 a_dg1 H.size v_bF u_62.1 u_62.2 v_a 8) (cwV 3 hts (gd_V wd_204 wd_205 wd_206 wd_138 wd_146) rfl rfl rfl hdX1_give ⟨Nat.le_of_ble_eq_true rfl, Nat.le_of_ble_eq_true rfl⟩) (preV_std (ci := 1) (q0 := 2) hPc hK hDc hNW rfl rfl) rfl rfl hl.1 rfl (lv_room (Nat.le_of_ble_eq_true rfl)) dX2_fromRegister_82 ⟨Nat.zero_le _, Nat.zero_le _⟩) hS (fun q _ h => hFc q h) hFc (fun u_82 t9 H1 locs ht9 hvm9 hw9 hB9 hz9 hk9 hS => ?_)
    have eu_82 : u_82 = fX1_give v_a 8 v_bF u_62.1 u_62.2 := hw9
    obtain ⟨hP, hD⟩ := back_std (w1 := (wX1_give cI cB a_me a_by a_ks a_d1 a_dg1 u_82 u_62.1 u_62.2)) (w2 := (wX2_fromRegister cI cB a_de a_ins a_mc a_me a_ps a_by a_ks a_rg a_d1 a_dg1 a_d2 a_src v_fb v_sb v_op v_i v_r v_s v_a v_b u_30 v_word u_82 v_kF v_rF u_62.1 u_62.2)) (wr := [(a_de, .inr (2, [.ref a_mc, .ref a_ins, .ref a_me, .ref a_d1, .ref a_d2, .ref a_src, .int v_fb, .int v_sb])), (a_ins, .inr (4, [.ref a_mc, .ref a_me, .int v_op, .int v_i, .int v_r, .int v_s, .int v_a, .int v_b])), (a_mc, .inr (5, [.ref a_me, .ref a_ps, .ref a_rg, .int u_30])), (a_ps, .inr (7, [.long v_word])), (a_ks, .inl (cI, 4, .inl v_kF)), (a_rg, .inl (cI, 16, .inl v_rF))]) hP hD [3, 5, 8, 9] [0, 1, 2, 4, 6, 7] [0, 1, 2, 6, 3, 7, 4, 5, 8, 9] rfl rfl (by decide) (by decide) hk9 hFc hB9 ht9 (by decide) rfl
    clear hB9 hk9 hz9 hvm9 ht9 hFc hPc hDc
    generalize H1 = H at hP hS ⊢
    have hf9 : (u_30, u_82, u_62.1, u_62.2) = fX2_fromRegister v_r v_a v_fault v_word v_bF v_kF v_rF v_below1 v_dF1 := by simp only [fX2_fromRegister, ← eu_14, ← eu_30, ← er_37, ← er_58, ← eu_62, ← eu_82]; (try simp only [if_neg c_40])
    exact W.vret hx hb hr (fun t9 ht9 hW9 => ⟨⟨(u_30, u_82, u_62.1, u_62.2), rfl, hf9, ⟨by rw [ht9]; exact hP, va_K.moved hW9.alike hK, hD⟩⟩, hS.F ht9⟩) hS.2.2 dX2_fromRegister_85
theorem hdX2_fromRegister : yX2_fromRegister.cls = RX2 ∧ yX2_fromRegister.cls ≠ "java/lang/invoke/MethodHandle" ∧ yX2_fromRegister.cls ≠ "java/lang/invoke/VarHandle" ∧ (parseMethodDescriptor yX2_fromRegister.desc).map (fun d => d.parameters.length) = some 0 := by decide +kernel
noncomputable def fX2_toRegister (v_r : Int32) (v_a : Int32) (v_fault : Int32) (v_word : Int64) (v_bF : (Nat → Int32)) (v_kF : (Nat → Int32)) (v_rF : (Nat → Int32)) (v_below1 : Int32) (v_dF1 : (Nat → Int32)) : (Int32 × (Nat → Int32) × Int32 × (Nat → Int32)) :=
  let u_14 := fX5_demand v_a 8 0 v_fault v_word v_kF
  let u_30 := fX5_demandAligned v_a 8 u_14
  let r_37 := fX5_fine u_30
  let m_75 : (Int32 × Int32 × (Nat → Int32)) := (if r_37 = 0 then ((u_30, v_below1, v_dF1)) else (let p_60 := fX1_take v_a 8 v_bF v_below1 v_dF1; let r_60 := p_60.1; let u_60 := p_60.2; if r_60 = 0 then (let u_72 := fX5_fail 7 u_30; (u_72, u_60.1, u_60.2)) else ((u_30, u_60.1, u_60.2))))
  let r_79 := fX5_fine m_75.1
  if r_79 = 0 then ((m_75.1, v_rF, m_75.2.1, m_75.2.2)) else (let m_114 : Int64 := (if m_75.2.1 = 0 then (let r_111 := fX1_size m_75.2.2; r_111) else (let r_100 := fX1_size m_75.2.2; (-r_100))); if (lg_cmp (m_114) (((m_114 : Int64).toInt32 : Int32).toInt64)) = 0 then (let u_136 := fX5_setReg v_r ((m_114 : Int64).toInt32) v_rF; (m_75.1, u_136, m_75.2.1, m_75.2.2)) else (let u_148 := fX5_fail 9 m_75.1; (u_148, v_rF, m_75.2.1, m_75.2.2)))
abbrev wX2_toRegister (cI cB : ClassId) (a_de a_ins a_mc a_me a_ps a_by a_ks a_rg a_d1 a_dg1 a_d2 a_src : Nat) (v_fb : Int32) (v_sb : Int32) (v_op : Int32) (v_i : Int32) (v_r : Int32) (v_s : Int32) (v_a : Int32) (v_b : Int32) (v_fault : Int32) (v_word : Int64) (v_bF : (Nat → Int32)) (v_kF : (Nat → Int32)) (v_rF : (Nat → Int32)) (v_below1 : Int32) (v_dF1 : (Nat → Int32)) : va_W := [(a_de, .inr (2, [.ref a_mc, .ref a_ins, .ref a_me, .ref a_d1, .ref a_d2, .ref a_src, .int v_fb, .int v_sb])), (a_ins, .inr (4, [.ref a_mc, .ref a_me, .int v_op, .int v_i, .int v_r, .int v_s, .int v_a, .int v_b])), (a_mc, .inr (5, [.ref a_me, .ref a_ps, .ref a_rg, .int v_fault])), (a_me, .inr (6, [.ref a_by, .ref a_ks])), (a_ps, .inr (7, [.long v_word])), (a_by, .inl (cB, 8192, .inl v_bF)), (a_ks, .inl (cI, 4, .inl v_kF)), (a_rg, .inl (cI, 16, .inl v_rF)), (a_d1, .inr (1, [.ref a_dg1, .int v_below1])), (a_dg1, .inl (cI, 32, .inl v_dF1))]
abbrev rmX2_toRegister : Room := { frames := 2, cells := 0, slots := 0, locals := 51 }
abbrev qX2_toRegister (D : va_G) (cI cB : ClassId) (a_de a_ins a_mc a_me a_ps a_by a_ks a_rg a_d1 a_dg1 a_d2 a_src : Nat) (v_fb : Int32) (v_sb : Int32) (v_op : Int32) (v_i : Int32) (v_r : Int32) (v_s : Int32) (v_a : Int32) (v_b : Int32) (v_fault : Int32) (v_word : Int64) (v_bF : (Nat → Int32)) (v_kF : (Nat → Int32)) (v_rF : (Nat → Int32)) (v_below1 : Int32) (v_dF1 : (Nat → Int32)) : (Nat → Prop) → Array Value → State → Outcome → State → Prop := fun A9 => va_Qv (fun (u9 : (Int32 × (Nat → Int32) × Int32 × (Nat → Int32))) => u9 = fX2_toRegister v_r v_a v_fault v_word v_bF v_kF v_rF v_below1 v_dF1) (fun u9 t9 => atW D (TYS cI cB) A9 (wX2_toRegister cI cB a_de a_ins a_mc a_me a_ps a_by a_ks a_rg a_d1 a_dg1 a_d2 a_src v_fb v_sb v_op v_i v_r v_s v_a v_b u9.1 v_word v_bF v_kF u9.2.1 u9.2.2.1 u9.2.2.2) t9) A9
set_option maxHeartbeats 4000000 in
set_option maxRecDepth 100000 in
theorem kX2_toRegister (l : Launch) (D : va_G) (cI cB : ClassId) (a_de a_ins a_mc a_me a_ps a_by a_ks a_rg a_d1 a_dg1 a_d2 a_src : Nat) (sz : Nat) (v_fb : Int32) (v_sb : Int32) (v_op : Int32) (v_i : Int32) (v_r : Int32) (v_s : Int32) (v_a : Int32) (v_b : Int32) (v_fault : Int32) (v_word : Int64) (v_bF : (Nat → Int32)) (v_kF : (Nat → Int32)) (v_rF : (Nat → Int32)) (v_below1 : Int32) (v_dF1 : (Nat → Int32)) : MetW l yX2_toRegister (WK yX2_toRegister cX2_toRegister 3 none) rmX2_toRegister D (TYS cI cB) (wX2_toRegister cI cB a_de a_ins a_mc a_me a_ps a_by a_ks a_rg a_d1 a_dg1 a_d2 a_src v_fb v_sb v_op v_i v_r v_s v_a v_b v_fault v_word v_bF v_kF v_rF v_below1 v_dF1) sz [.ref a_de] (qX2_toRegister D cI cB a_de a_ins a_mc a_me a_ps a_by a_ks a_rg a_d1 a_dg1 a_d2 a_src v_fb v_sb v_op v_i v_r v_s v_a v_b v_fault v_word v_bF v_kF v_rF v_below1 v_dF1) 0 0 := by
  refine met_std (by decide) rfl (Nat.le_of_ble_eq_true rfl) ?_
  intro p e s m below meth c A ls H hx hb hr hml hown hts hlocks hA hP hK hD hS hNW hl
  have hl : lv_has ls 3 [(0, .ref a_de)] := hl
  have q_0 := hts _ (List.mem_cons_of_mem _ wd_188)
  have q_1 := hts _ (List.mem_cons_of_mem _ wd_189)
  have q_2 := hts _ (List.mem_cons_of_mem _ wd_193)
  have q_3 := hts _ (List.mem_cons_of_mem _ wd_190)
  have n_0 := hNW.f (A := ([.ref a_de] : List Value).toArray) ("MainframeCore$Decimals", 40, "MainframeCore$Instruction", "a", "I", "MainframeCore") (by decide +kernel)
  have n_1 := hNW.f (A := ([.ref a_de] : List Value).toArray) ("MainframeCore$Decimals", 81, "MainframeCore$Decimal", "below", "Z", "MainframeCore") (by decide +kernel)
  have n_2 := hNW.f (A := ([.ref a_de] : List Value).toArray) ("MainframeCore$Decimals", 58, "MainframeCore$Instruction", "\x72", "I", "MainframeCore") (by decide +kernel)
  refine lv_aload_n hx hb dX2_toRegister_0 rfl (lv_at hl 0 rfl) ?_
  refine va_get (D := D) (ci := 2) (v := .ref a_mc) (C := RX2) (T := TX2) (N := 8) hx hb hts in_X2 hown hK hP 0 rfl rfl 0 (by decide) q_0 (fun _ h9 => h9) rfl dX2_toRegister_1 ?_
  refine lv_aload_n hx hb dX2_toRegister_4 rfl (lv_at hl 0 rfl) ?_
  refine va_get (D := D) (ci := 2) (v := .ref a_ins) (C := RX2) (T := TX2) (N := 8) hx hb hts in_X2 hown hK hP 0 rfl rfl 1 (by decide) q_1 (fun _ h9 => h9) rfl dX2_toRegister_5 ?_
  refine va_getN (D := D) (ci := 4) (v := .int v_a) (C := RX4) (T := TX4) (N := 8) hx hb hts in_X4 hown hK hP 1 rfl rfl 6 (by decide) n_0 (fun _ h9 => h9) rfl dX2_toRegister_8 ?_
  refine lv_bipush (v := 8) hx hb dX2_toRegister_11 (by decide) ?_
  refine lv_iconst (v := 0) hx hb dX2_toRegister_13 (by decide) ?_
  have hPc : va_P D vwCl (wX5_demand cI cB a_mc a_me a_ps a_by a_ks a_rg v_fault v_word v_kF) H := hP.sub [2, 3, 4, 6] rfl
  have hDc : va_D A (wX5_demand cI cB a_mc a_me a_ps a_by a_ks a_rg v_fault v_word v_kF) := hD.sub [2, 3, 4, 6] (by decide) rfl
  have hFc := va_free (wc := (wX5_demand cI cB a_mc a_me a_ps a_by a_ks a_rg v_fault v_word v_kF)) hD hS hA [2, 3, 4, 6] rfl
  refine va_callv (va_runV (As := [.int v_a, .int 8, .int 0]) (rest := []) ⟨hx, hb, hml, hown, hts⟩ (kX5_demand l D cI cB a_mc a_me a_ps a_by a_ks a_rg H.size v_fault v_word v_kF v_a 8 0) (cwV 3 hts (gd_V wd_197 wd_106 wd_107 wd_24 wd_93) rfl rfl rfl hdX5_demand ⟨Nat.le_of_ble_eq_true rfl, Nat.le_of_ble_eq_true rfl⟩) (preV_std (ci := 5) (q0 := 0) hPc hK hDc hNW rfl rfl) rfl rfl hl.1 rfl (lv_room (Nat.le_of_ble_eq_true rfl)) dX2_toRegister_14 ⟨Nat.zero_le _, Nat.zero_le _⟩) hS (fun q _ h => hFc q h) hFc (fun u_14 t9 H1 locs ht9 hvm9 hw9 hB9 hz9 hk9 hS => ?_)
  have eu_14 : u_14 = fX5_demand v_a 8 0 v_fault v_word v_kF := hw9
  obtain ⟨hP, hD⟩ := back_std (w1 := (wX5_demand cI cB a_mc a_me a_ps a_by a_ks a_rg u_14 v_word v_kF)) (w2 := (wX2_toRegister cI cB a_de a_ins a_mc a_me a_ps a_by a_ks a_rg a_d1 a_dg1 a_d2 a_src v_fb v_sb v_op v_i v_r v_s v_a v_b u_14 v_word v_bF v_kF v_rF v_below1 v_dF1)) (wr := [(a_de, .inr (2, [.ref a_mc, .ref a_ins, .ref a_me, .ref a_d1, .ref a_d2, .ref a_src, .int v_fb, .int v_sb])), (a_ins, .inr (4, [.ref a_mc, .ref a_me, .int v_op, .int v_i, .int v_r, .int v_s, .int v_a, .int v_b])), (a_by, .inl (cB, 8192, .inl v_bF)), (a_rg, .inl (cI, 16, .inl v_rF)), (a_d1, .inr (1, [.ref a_dg1, .int v_below1])), (a_dg1, .inl (cI, 32, .inl v_dF1))]) hP hD [2, 3, 4, 6] [0, 1, 5, 7, 8, 9] [0, 1, 6, 7, 8, 2, 9, 3, 4, 5] rfl rfl (by decide) (by decide) hk9 hFc hB9 ht9 (by decide) rfl
  clear hB9 hk9 hz9 hvm9 ht9 hFc hPc hDc
  generalize H1 = H at hP hS ⊢
  refine lv_aload_n hx hb dX2_toRegister_17 rfl (lv_at hl 0 rfl) ?_
  refine va_get (D := D) (ci := 2) (v := .ref a_mc) (C := RX2) (T := TX2) (N := 8) hx hb hts in_X2 hown hK hP 0 rfl rfl 0 (by decide) q_0 (fun _ h9 => h9) rfl dX2_toRegister_18 ?_
  refine lv_aload_n hx hb dX2_toRegister_21 rfl (lv_at hl 0 rfl) ?_
  refine va_get (D := D) (ci := 2) (v := .ref a_ins) (C := RX2) (T := TX2) (N := 8) hx hb hts in_X2 hown hK hP 0 rfl rfl 1 (by decide) q_1 (fun _ h9 => h9) rfl dX2_toRegister_22 ?_
  refine va_getN (D := D) (ci := 4) (v := .int v_a) (C := RX4) (T := TX4) (N := 8) hx hb hts in_X4 hown hK hP 1 rfl rfl 6 (by decide) n_0 (fun _ h9 => h9) rfl dX2_toRegister_25 ?_
  refine lv_bipush (v := 8) hx hb dX2_toRegister_28 (by decide) ?_
  have hPc : va_P D vwCl (wX5_demandAligned cI cB a_mc a_me a_ps a_rg u_14) H := hP.sub [2] rfl
  have hDc : va_D A (wX5_demandAligned cI cB a_mc a_me a_ps a_rg u_14) := hD.sub [2] (by decide) rfl
  have hFc := va_free (wc := (wX5_demandAligned cI cB a_mc a_me a_ps a_rg u_14)) hD hS hA [2] rfl
  refine va_callv (va_runV (As := [.int v_a, .int 8]) (rest := []) ⟨hx, hb, hml, hown, hts⟩ (kX5_demandAligned l D cI cB a_mc a_me a_ps a_rg H.size u_14 v_a 8) (cwV 2 hts (gd_V wd_198 wd_62 wd_63 wd_24 wd_56) rfl rfl rfl hdX5_demandAligned ⟨Nat.le_of_ble_eq_true rfl, Nat.le_of_ble_eq_true rfl⟩) (preV_std (ci := 5) (q0 := 0) hPc hK hDc hNW rfl rfl) rfl rfl hl.1 rfl (lv_room (Nat.le_of_ble_eq_true rfl)) dX2_toRegister_30 ⟨Nat.zero_le _, Nat.zero_le _⟩) hS (fun q _ h => hFc q h) hFc (fun u_30 t9 H1 locs ht9 hvm9 hw9 hB9 hz9 hk9 hS => ?_)
  have eu_30 : u_30 = fX5_demandAligned v_a 8 u_14 := hw9
  obtain ⟨hP, hD⟩ := back_std (w1 := (wX5_demandAligned cI cB a_mc a_me a_ps a_rg u_30)) (w2 := (wX2_toRegister cI cB a_de a_ins a_mc a_me a_ps a_by a_ks a_rg a_d1 a_dg1 a_d2 a_src v_fb v_sb v_op v_i v_r v_s v_a v_b u_30 v_word v_bF v_kF v_rF v_below1 v_dF1)) (wr := [(a_de, .inr (2, [.ref a_mc, .ref a_ins, .ref a_me, .ref a_d1, .ref a_d2, .ref a_src, .int v_fb, .int v_sb])), (a_ins, .inr (4, [.ref a_mc, .ref a_me, .int v_op, .int v_i, .int v_r, .int v_s, .int v_a, .int v_b])), (a_me, .inr (6, [.ref a_by, .ref a_ks])), (a_ps, .inr (7, [.long v_word])), (a_by, .inl (cB, 8192, .inl v_bF)), (a_ks, .inl (cI, 4, .inl v_kF)), (a_rg, .inl (cI, 16, .inl v_rF)), (a_d1, .inr (1, [.ref a_dg1, .int v_below1])), (a_dg1, .inl (cI, 32, .inl v_dF1))]) hP hD [2] [0, 1, 3, 4, 5, 6, 7, 8, 9] [0, 1, 9, 2, 3, 4, 5, 6, 7, 8] rfl rfl (by decide) (by decide) hk9 hFc hB9 ht9 (by decide) rfl
  clear hB9 hk9 hz9 hvm9 ht9 hFc hPc hDc
  generalize H1 = H at hP hS ⊢
  refine lv_aload_n hx hb dX2_toRegister_33 rfl (lv_at hl 0 rfl) ?_
  refine va_get (D := D) (ci := 2) (v := .ref a_mc) (C := RX2) (T := TX2) (N := 8) hx hb hts in_X2 hown hK hP 0 rfl rfl 0 (by decide) q_0 (fun _ h9 => h9) rfl dX2_toRegister_34 ?_
  have hPc : va_P D vwCl (wX5_fine cI cB a_mc a_me a_ps a_rg u_30) H := hP.sub [2] rfl
  have hDc : va_D A (wX5_fine cI cB a_mc a_me a_ps a_rg u_30) := hD.sub [2] (by decide) rfl
  have hFc := va_free (wc := (wX5_fine cI cB a_mc a_me a_ps a_rg u_30)) hD hS hA [2] rfl
  refine va_calli (va_runV (As := []) (rest := []) ⟨hx, hb, hml, hown, hts⟩ (kX5_fine l D cI cB a_mc a_me a_ps a_rg H.size u_30 ) (cwV 0 hts (gd_V wd_199 wd_73 wd_74 wd_24 wd_66) rfl rfl rfl hdX5_fine ⟨Nat.le_of_ble_eq_true rfl, Nat.le_of_ble_eq_true rfl⟩) (preV_std (ci := 5) (q0 := 0) hPc hK hDc hNW rfl rfl) rfl rfl hl.1 rfl (lv_room (Nat.le_of_ble_eq_true rfl)) dX2_toRegister_37 ⟨Nat.zero_le _, Nat.zero_le _⟩) hS (fun q _ h => hFc q h) hFc (fun r_37 u_37 t9 H1 locs ht9 hvm9 hw9 hB9 hz9 hk9 hS => ?_)
  have er_37 : r_37 = fX5_fine u_30 := hw9
  have zr_37 : r_37 = 0 ∨ r_37 = 1 := by rw [er_37]; exact zX5_fine _
  obtain ⟨hP, hD⟩ := back_std (w1 := (wX5_fine cI cB a_mc a_me a_ps a_rg u_30)) (w2 := (wX2_toRegister cI cB a_de a_ins a_mc a_me a_ps a_by a_ks a_rg a_d1 a_dg1 a_d2 a_src v_fb v_sb v_op v_i v_r v_s v_a v_b u_30 v_word v_bF v_kF v_rF v_below1 v_dF1)) (wr := [(a_de, .inr (2, [.ref a_mc, .ref a_ins, .ref a_me, .ref a_d1, .ref a_d2, .ref a_src, .int v_fb, .int v_sb])), (a_ins, .inr (4, [.ref a_mc, .ref a_me, .int v_op, .int v_i, .int v_r, .int v_s, .int v_a, .int v_b])), (a_me, .inr (6, [.ref a_by, .ref a_ks])), (a_ps, .inr (7, [.long v_word])), (a_by, .inl (cB, 8192, .inl v_bF)), (a_ks, .inl (cI, 4, .inl v_kF)), (a_rg, .inl (cI, 16, .inl v_rF)), (a_d1, .inr (1, [.ref a_dg1, .int v_below1])), (a_dg1, .inl (cI, 32, .inl v_dF1))]) hP hD [2] [0, 1, 3, 4, 5, 6, 7, 8, 9] [0, 1, 9, 2, 3, 4, 5, 6, 7, 8] rfl rfl (by decide) (by decide) hk9 hFc hB9 ht9 (by decide) rfl
  clear hB9 hk9 hz9 hvm9 ht9 hFc hPc hDc
  generalize H1 = H at hP hS ⊢
  have J_75 : ∀ (m_75 : (Int32 × Int32 × (Nat → Int32))), m_75 = (if r_37 = 0 then ((u_30, v_below1, v_dF1)) else (let p_60 := fX1_take v_a 8 v_bF v_below1 v_dF1; let r_60 := p_60.1; let u_60 := p_60.2; if r_60 = 0 then (let u_72 := fX5_fail 7 u_30; (u_72, u_60.1, u_60.2)) else ((u_30, u_60.1, u_60.2)))) → ∀ (H : Heap) (locs : List Loc), va_P D vwCl (wX2_toRegister cI cB a_de a_ins a_mc a_me a_ps a_by a_ks a_rg a_d1 a_dg1 a_d2 a_src v_fb v_sb v_op v_i v_r v_s v_a v_b m_75.1 v_word v_bF v_kF v_rF m_75.2.1 m_75.2.2) H → va_D A (wX2_toRegister cI cB a_de a_ins a_mc a_me a_ps a_by a_ks a_rg a_d1 a_dg1 a_d2 a_src v_fb v_sb v_op v_i v_r v_s v_a v_b m_75.1 v_word v_bF v_kF v_rF m_75.2.1 m_75.2.2) → va_S A s.heap H locs → ∀ (ls : Array Slot), lv_has ls 3 [(0, .ref a_de)] → W p l e rmX2_toRegister s m ([.ref a_de] : List Value).toArray below meth c H locs 0 0 (MQ below (qX2_toRegister D cI cB a_de a_ins a_mc a_me a_ps a_by a_ks a_rg a_d1 a_dg1 a_d2 a_src v_fb v_sb v_op v_i v_r v_s v_a v_b v_fault v_word v_bF v_kF v_rF v_below1 v_dF1 A) ([.ref a_de] : List Value).toArray s 0 0 A) (F0 m 75 ls []) := by
    intro m_75 em_75 H locs hP hD hS ls hl
    try dsimp only at em_75
    refine lv_aload_n hx hb dX2_toRegister_75 rfl (lv_at hl 0 rfl) ?_
    refine va_get (D := D) (ci := 2) (v := .ref a_mc) (C := RX2) (T := TX2) (N := 8) hx hb hts in_X2 hown hK hP 0 rfl rfl 0 (by decide) q_0 (fun _ h9 => h9) rfl dX2_toRegister_76 ?_
    have hPc : va_P D vwCl (wX5_fine cI cB a_mc a_me a_ps a_rg m_75.1) H := hP.sub [2] rfl
    have hDc : va_D A (wX5_fine cI cB a_mc a_me a_ps a_rg m_75.1) := hD.sub [2] (by decide) rfl
    have hFc := va_free (wc := (wX5_fine cI cB a_mc a_me a_ps a_rg m_75.1)) hD hS hA [2] rfl
    refine va_calli (va_runV (As := []) (rest := []) ⟨hx, hb, hml, hown, hts⟩ (kX5_fine l D cI cB a_mc a_me a_ps a_rg H.size m_75.1 ) (cwV 0 hts (gd_V wd_199 wd_73 wd_74 wd_24 wd_66) rfl rfl rfl hdX5_fine ⟨Nat.le_of_ble_eq_true rfl, Nat.le_of_ble_eq_true rfl⟩) (preV_std (ci := 5) (q0 := 0) hPc hK hDc hNW rfl rfl) rfl rfl hl.1 rfl (lv_room (Nat.le_of_ble_eq_true rfl)) dX2_toRegister_79 ⟨Nat.zero_le _, Nat.zero_le _⟩) hS (fun q _ h => hFc q h) hFc (fun r_79 u_79 t9 H1 locs ht9 hvm9 hw9 hB9 hz9 hk9 hS => ?_)
    have er_79 : r_79 = fX5_fine m_75.1 := hw9
    have zr_79 : r_79 = 0 ∨ r_79 = 1 := by rw [er_79]; exact zX5_fine _
    obtain ⟨hP, hD⟩ := back_std (w1 := (wX5_fine cI cB a_mc a_me a_ps a_rg m_75.1)) (w2 := (wX2_toRegister cI cB a_de a_ins a_mc a_me a_ps a_by a_ks a_rg a_d1 a_dg1 a_d2 a_src v_fb v_sb v_op v_i v_r v_s v_a v_b m_75.1 v_word v_bF v_kF v_rF m_75.2.1 m_75.2.2)) (wr := [(a_de, .inr (2, [.ref a_mc, .ref a_ins, .ref a_me, .ref a_d1, .ref a_d2, .ref a_src, .int v_fb, .int v_sb])), (a_ins, .inr (4, [.ref a_mc, .ref a_me, .int v_op, .int v_i, .int v_r, .int v_s, .int v_a, .int v_b])), (a_me, .inr (6, [.ref a_by, .ref a_ks])), (a_ps, .inr (7, [.long v_word])), (a_by, .inl (cB, 8192, .inl v_bF)), (a_ks, .inl (cI, 4, .inl v_kF)), (a_rg, .inl (cI, 16, .inl v_rF)), (a_d1, .inr (1, [.ref a_dg1, .int m_75.2.1])), (a_dg1, .inl (cI, 32, .inl m_75.2.2))]) hP hD [2] [0, 1, 3, 4, 5, 6, 7, 8, 9] [0, 1, 9, 2, 3, 4, 5, 6, 7, 8] rfl rfl (by decide) (by decide) hk9 hFc hB9 ht9 (by decide) rfl
    clear hB9 hk9 hz9 hvm9 ht9 hFc hPc hDc
    generalize H1 = H at hP hS ⊢
    refine lv_if_ne (tgt := 86) hx hb dX2_toRegister_82 (by decide) (fun c_82 => ?_) (fun c_82 => ?_)
    · skip
      refine lv_aload_n hx hb dX2_toRegister_86 rfl (lv_at hl 0 rfl) ?_
      refine va_get (D := D) (ci := 2) (v := .ref a_d1) (C := RX2) (T := TX2) (N := 8) hx hb hts in_X2 hown hK hP 0 rfl rfl 3 (by decide) q_2 (fun _ h9 => h9) rfl dX2_toRegister_87 ?_
      refine va_getN (D := D) (ci := 1) (v := .int m_75.2.1) (C := RX1) (T := TX1) (N := 2) hx hb hts in_X1 hown hK hP 8 rfl rfl 1 (by decide) n_1 (fun _ h9 => h9) rfl dX2_toRegister_90 ?_
      have J_114 : ∀ (m_114 : Int64), m_114 = (if m_75.2.1 = 0 then (let r_111 := fX1_size m_75.2.2; r_111) else (let r_100 := fX1_size m_75.2.2; (-r_100))) → ∀ (H : Heap) (locs : List Loc), va_P D vwCl (wX2_toRegister cI cB a_de a_ins a_mc a_me a_ps a_by a_ks a_rg a_d1 a_dg1 a_d2 a_src v_fb v_sb v_op v_i v_r v_s v_a v_b m_75.1 v_word v_bF v_kF v_rF m_75.2.1 m_75.2.2) H → va_D A (wX2_toRegister cI cB a_de a_ins a_mc a_me a_ps a_by a_ks a_rg a_d1 a_dg1 a_d2 a_src v_fb v_sb v_op v_i v_r v_s v_a v_b m_75.1 v_word v_bF v_kF v_rF m_75.2.1 m_75.2.2) → va_S A s.heap H locs → ∀ (ls : Array Slot), lv_has ls 3 [(0, .ref a_de)] → W p l e rmX2_toRegister s m ([.ref a_de] : List Value).toArray below meth c H locs 0 0 (MQ below (qX2_toRegister D cI cB a_de a_ins a_mc a_me a_ps a_by a_ks a_rg a_d1 a_dg1 a_d2 a_src v_fb v_sb v_op v_i v_r v_s v_a v_b v_fault v_word v_bF v_kF v_rF v_below1 v_dF1 A) ([.ref a_de] : List Value).toArray s 0 0 A) (F0 m 114 ls [.long m_114]) := by
        intro m_114 em_114 H locs hP hD hS ls hl
        try dsimp only at em_114
        refine lv_lstore_n (lv' := [(1, .long m_114), (0, .ref a_de)]) hx hb dX2_toRegister_114 rfl hl (by decide) rfl (fun ls hl => ?_)
        refine lv_lload_n hx hb dX2_toRegister_115 rfl (lv_at hl 0 rfl) ?_
        refine lv_lload_n hx hb dX2_toRegister_116 rfl (lv_at hl 0 rfl) ?_
        refine lv_l2i hx hb dX2_toRegister_117 rfl ?_
        refine lv_i2l hx hb dX2_toRegister_118 rfl ?_
        refine W.lcmp hx hb dX2_toRegister_119 ?_
        refine lv_if_ne (tgt := 142) hx hb dX2_toRegister_120 (by decide) (fun c_120 => ?_) (fun c_120 => ?_)
        · skip
          refine lv_aload_n hx hb dX2_toRegister_142 rfl (lv_at hl 1 rfl) ?_
          refine va_get (D := D) (ci := 2) (v := .ref a_mc) (C := RX2) (T := TX2) (N := 8) hx hb hts in_X2 hown hK hP 0 rfl rfl 0 (by decide) q_0 (fun _ h9 => h9) rfl dX2_toRegister_143 ?_
          refine lv_bipush (v := 9) hx hb dX2_toRegister_146 (by decide) ?_
          have hPc : va_P D vwCl (wX5_fail cI cB a_mc a_me a_ps a_rg m_75.1) H := hP.sub [2] rfl
          have hDc : va_D A (wX5_fail cI cB a_mc a_me a_ps a_rg m_75.1) := hD.sub [2] (by decide) rfl
          have hFc := va_free (wc := (wX5_fail cI cB a_mc a_me a_ps a_rg m_75.1)) hD hS hA [2] rfl
          refine va_callv (va_runV (As := [.int 9]) (rest := []) ⟨hx, hb, hml, hown, hts⟩ (kX5_fail l D cI cB a_mc a_me a_ps a_rg H.size m_75.1 9) (cwV 1 hts (gd_V wd_211 wd_54 wd_55 wd_24 wd_46) rfl rfl rfl hdX5_fail ⟨Nat.le_of_ble_eq_true rfl, Nat.le_of_ble_eq_true rfl⟩) (preV_std (ci := 5) (q0 := 0) hPc hK hDc hNW rfl rfl) rfl rfl hl.1 rfl (lv_room (Nat.le_of_ble_eq_true rfl)) dX2_toRegister_148 ⟨Nat.zero_le _, Nat.zero_le _⟩) hS (fun q _ h => hFc q h) hFc (fun u_148 t9 H1 locs ht9 hvm9 hw9 hB9 hz9 hk9 hS => ?_)
          have eu_148 : u_148 = fX5_fail 9 m_75.1 := hw9
          obtain ⟨hP, hD⟩ := back_std (w1 := (wX5_fail cI cB a_mc a_me a_ps a_rg u_148)) (w2 := (wX2_toRegister cI cB a_de a_ins a_mc a_me a_ps a_by a_ks a_rg a_d1 a_dg1 a_d2 a_src v_fb v_sb v_op v_i v_r v_s v_a v_b u_148 v_word v_bF v_kF v_rF m_75.2.1 m_75.2.2)) (wr := [(a_de, .inr (2, [.ref a_mc, .ref a_ins, .ref a_me, .ref a_d1, .ref a_d2, .ref a_src, .int v_fb, .int v_sb])), (a_ins, .inr (4, [.ref a_mc, .ref a_me, .int v_op, .int v_i, .int v_r, .int v_s, .int v_a, .int v_b])), (a_me, .inr (6, [.ref a_by, .ref a_ks])), (a_ps, .inr (7, [.long v_word])), (a_by, .inl (cB, 8192, .inl v_bF)), (a_ks, .inl (cI, 4, .inl v_kF)), (a_rg, .inl (cI, 16, .inl v_rF)), (a_d1, .inr (1, [.ref a_dg1, .int m_75.2.1])), (a_dg1, .inl (cI, 32, .inl m_75.2.2))]) hP hD [2] [0, 1, 3, 4, 5, 6, 7, 8, 9] [0, 1, 9, 2, 3, 4, 5, 6, 7, 8] rfl rfl (by decide) (by decide) hk9 hFc hB9 ht9 (by decide) rfl
          clear hB9 hk9 hz9 hvm9 ht9 hFc hPc hDc
          generalize H1 = H at hP hS ⊢
          have hf9 : (u_148, v_rF, m_75.2.1, m_75.2.2) = fX2_toRegister v_r v_a v_fault v_word v_bF v_kF v_rF v_below1 v_dF1 := by simp only [fX2_toRegister, ← eu_14, ← eu_30, ← er_37, ← em_75, ← er_79, ← em_114, ← eu_148]; (try simp only [if_neg c_82, if_neg c_120])
          exact W.vret hx hb hr (fun t9 ht9 hW9 => ⟨⟨(u_148, v_rF, m_75.2.1, m_75.2.2), rfl, hf9, ⟨by rw [ht9]; exact hP, va_K.moved hW9.alike hK, hD⟩⟩, hS.F ht9⟩) hS.2.2 dX2_toRegister_151
        · skip
          refine lv_aload_n hx hb dX2_toRegister_123 rfl (lv_at hl 1 rfl) ?_
          refine va_get (D := D) (ci := 2) (v := .ref a_mc) (C := RX2) (T := TX2) (N := 8) hx hb hts in_X2 hown hK hP 0 rfl rfl 0 (by decide) q_0 (fun _ h9 => h9) rfl dX2_toRegister_124 ?_
          refine lv_aload_n hx hb dX2_toRegister_127 rfl (lv_at hl 1 rfl) ?_
          refine va_get (D := D) (ci := 2) (v := .ref a_ins) (C := RX2) (T := TX2) (N := 8) hx hb hts in_X2 hown hK hP 0 rfl rfl 1 (by decide) q_1 (fun _ h9 => h9) rfl dX2_toRegister_128 ?_
          refine va_getN (D := D) (ci := 4) (v := .int v_r) (C := RX4) (T := TX4) (N := 8) hx hb hts in_X4 hown hK hP 1 rfl rfl 4 (by decide) n_2 (fun _ h9 => h9) rfl dX2_toRegister_131 ?_
          refine lv_lload_n hx hb dX2_toRegister_134 rfl (lv_at hl 0 rfl) ?_
          refine lv_l2i hx hb dX2_toRegister_135 rfl ?_
          have hPc : va_P D vwCl (wX5_setReg cI cB a_mc a_me a_ps a_rg m_75.1 v_rF) H := hP.sub [2, 7] rfl
          have hDc : va_D A (wX5_setReg cI cB a_mc a_me a_ps a_rg m_75.1 v_rF) := hD.sub [2, 7] (by decide) rfl
          have hFc := va_free (wc := (wX5_setReg cI cB a_mc a_me a_ps a_rg m_75.1 v_rF)) hD hS hA [2, 7] rfl
          refine va_callv (va_runV (As := [.int v_r, .int (m_114 : Int64).toInt32]) (rest := []) ⟨hx, hb, hml, hown, hts⟩ (kX5_setReg l D cI cB a_mc a_me a_ps a_rg H.size m_75.1 v_rF v_r ((m_114 : Int64).toInt32)) (cwV 2 hts (gd_V wd_215 wd_22 wd_23 wd_24 wd_6) rfl rfl rfl hdX5_setReg ⟨Nat.le_of_ble_eq_true rfl, Nat.le_of_ble_eq_true rfl⟩) (preV_std (ci := 5) (q0 := 0) hPc hK hDc hNW rfl rfl) rfl rfl hl.1 rfl (lv_room (Nat.le_of_ble_eq_true rfl)) dX2_toRegister_136 ⟨Nat.zero_le _, Nat.zero_le _⟩) hS (fun q _ h => hFc q h) hFc (fun u_136 t9 H1 locs ht9 hvm9 hw9 hB9 hz9 hk9 hS => ?_)
          have eu_136 : u_136 = fX5_setReg v_r ((m_114 : Int64).toInt32) v_rF := hw9
          obtain ⟨hP, hD⟩ := back_std (w1 := (wX5_setReg cI cB a_mc a_me a_ps a_rg m_75.1 u_136)) (w2 := (wX2_toRegister cI cB a_de a_ins a_mc a_me a_ps a_by a_ks a_rg a_d1 a_dg1 a_d2 a_src v_fb v_sb v_op v_i v_r v_s v_a v_b m_75.1 v_word v_bF v_kF u_136 m_75.2.1 m_75.2.2)) (wr := [(a_de, .inr (2, [.ref a_mc, .ref a_ins, .ref a_me, .ref a_d1, .ref a_d2, .ref a_src, .int v_fb, .int v_sb])), (a_ins, .inr (4, [.ref a_mc, .ref a_me, .int v_op, .int v_i, .int v_r, .int v_s, .int v_a, .int v_b])), (a_me, .inr (6, [.ref a_by, .ref a_ks])), (a_ps, .inr (7, [.long v_word])), (a_by, .inl (cB, 8192, .inl v_bF)), (a_ks, .inl (cI, 4, .inl v_kF)), (a_d1, .inr (1, [.ref a_dg1, .int m_75.2.1])), (a_dg1, .inl (cI, 32, .inl m_75.2.2))]) hP hD [2, 7] [0, 1, 3, 4, 5, 6, 8, 9] [0, 1, 8, 2, 3, 4, 5, 9, 6, 7] rfl rfl (by decide) (by decide) hk9 hFc hB9 ht9 (by decide) rfl
          clear hB9 hk9 hz9 hvm9 ht9 hFc hPc hDc
          generalize H1 = H at hP hS ⊢
          refine lv_goto (tgt := 151) hx hb dX2_toRegister_139 (by decide) ?_
          have hf9 : (m_75.1, u_136, m_75.2.1, m_75.2.2) = fX2_toRegister v_r v_a v_fault v_word v_bF v_kF v_rF v_below1 v_dF1 := by simp only [fX2_toRegister, ← eu_14, ← eu_30, ← er_37, ← em_75, ← er_79, ← em_114, ← eu_136]; (try simp only [if_neg c_82, if_pos c_120])
          exact W.vret hx hb hr (fun t9 ht9 hW9 => ⟨⟨(m_75.1, u_136, m_75.2.1, m_75.2.2), rfl, hf9, ⟨by rw [ht9]; exact hP, va_K.moved hW9.alike hK, hD⟩⟩, hS.F ht9⟩) hS.2.2 dX2_toRegister_151
      refine lv_if_eq (tgt := 107) hx hb dX2_toRegister_93 (by decide) (fun c_93 => ?_) (fun c_93 => ?_)
      · skip
        refine lv_aload_n hx hb dX2_toRegister_107 rfl (lv_at hl 0 rfl) ?_
        refine va_get (D := D) (ci := 2) (v := .ref a_d1) (C := RX2) (T := TX2) (N := 8) hx hb hts in_X2 hown hK hP 0 rfl rfl 3 (by decide) q_2 (fun _ h9 => h9) rfl dX2_toRegister_108 ?_
        have hPc : va_P D vwCl (wX1_size cI cB a_d1 a_dg1 m_75.2.1 m_75.2.2) H := hP.sub [8, 9] rfl
        have hDc : va_D A (wX1_size cI cB a_d1 a_dg1 m_75.2.1 m_75.2.2) := hD.sub [8, 9] (by decide) rfl
        have hFc := va_free (wc := (wX1_size cI cB a_d1 a_dg1 m_75.2.1 m_75.2.2)) hD hS hA [8, 9] rfl
        refine va_calll (va_runV (As := []) (rest := []) ⟨hx, hb, hml, hown, hts⟩ (kX1_size l D cI cB a_d1 a_dg1 H.size m_75.2.1 m_75.2.2 ) (cwV 0 hts (gd_V wd_212 wd_213 wd_214 wd_138 wd_167) rfl rfl rfl hdX1_size ⟨Nat.le_of_ble_eq_true rfl, Nat.le_of_ble_eq_true rfl⟩) (preV_std (ci := 1) (q0 := 0) hPc hK hDc hNW rfl rfl) rfl rfl hl.1 rfl (lv_room (Nat.le_of_ble_eq_true rfl)) dX2_toRegister_111 ⟨Nat.zero_le _, Nat.zero_le _⟩) hS (fun q _ h => hFc q h) hFc (fun r_111 u_111 t9 H1 locs ht9 hvm9 hw9 hB9 hz9 hk9 hS => ?_)
        have er_111 : r_111 = fX1_size m_75.2.2 := hw9
        obtain ⟨hP, hD⟩ := back_std (w1 := (wX1_size cI cB a_d1 a_dg1 m_75.2.1 m_75.2.2)) (w2 := (wX2_toRegister cI cB a_de a_ins a_mc a_me a_ps a_by a_ks a_rg a_d1 a_dg1 a_d2 a_src v_fb v_sb v_op v_i v_r v_s v_a v_b m_75.1 v_word v_bF v_kF v_rF m_75.2.1 m_75.2.2)) (wr := [(a_de, .inr (2, [.ref a_mc, .ref a_ins, .ref a_me, .ref a_d1, .ref a_d2, .ref a_src, .int v_fb, .int v_sb])), (a_ins, .inr (4, [.ref a_mc, .ref a_me, .int v_op, .int v_i, .int v_r, .int v_s, .int v_a, .int v_b])), (a_mc, .inr (5, [.ref a_me, .ref a_ps, .ref a_rg, .int m_75.1])), (a_me, .inr (6, [.ref a_by, .ref a_ks])), (a_ps, .inr (7, [.long v_word])), (a_by, .inl (cB, 8192, .inl v_bF)), (a_ks, .inl (cI, 4, .inl v_kF)), (a_rg, .inl (cI, 16, .inl v_rF))]) hP hD [8, 9] [0, 1, 2, 3, 4, 5, 6, 7] [0, 1, 2, 3, 4, 5, 6, 7, 8, 9] rfl rfl (by decide) (by decide) hk9 hFc hB9 ht9 (by decide) rfl
        clear hB9 hk9 hz9 hvm9 ht9 hFc hPc hDc
        generalize H1 = H at hP hS ⊢
        exact J_114 r_111 (by (try simp only [← er_111]); (try simp only [if_pos c_93])) _ _ hP hD hS ls (lv_sub hl [0] rfl)
      · skip
        refine lv_aload_n hx hb dX2_toRegister_96 rfl (lv_at hl 0 rfl) ?_
        refine va_get (D := D) (ci := 2) (v := .ref a_d1) (C := RX2) (T := TX2) (N := 8) hx hb hts in_X2 hown hK hP 0 rfl rfl 3 (by decide) q_2 (fun _ h9 => h9) rfl dX2_toRegister_97 ?_
        have hPc : va_P D vwCl (wX1_size cI cB a_d1 a_dg1 m_75.2.1 m_75.2.2) H := hP.sub [8, 9] rfl
        have hDc : va_D A (wX1_size cI cB a_d1 a_dg1 m_75.2.1 m_75.2.2) := hD.sub [8, 9] (by decide) rfl
        have hFc := va_free (wc := (wX1_size cI cB a_d1 a_dg1 m_75.2.1 m_75.2.2)) hD hS hA [8, 9] rfl
        refine va_calll (va_runV (As := []) (rest := []) ⟨hx, hb, hml, hown, hts⟩ (kX1_size l D cI cB a_d1 a_dg1 H.size m_75.2.1 m_75.2.2 ) (cwV 0 hts (gd_V wd_212 wd_213 wd_214 wd_138 wd_167) rfl rfl rfl hdX1_size ⟨Nat.le_of_ble_eq_true rfl, Nat.le_of_ble_eq_true rfl⟩) (preV_std (ci := 1) (q0 := 0) hPc hK hDc hNW rfl rfl) rfl rfl hl.1 rfl (lv_room (Nat.le_of_ble_eq_true rfl)) dX2_toRegister_100 ⟨Nat.zero_le _, Nat.zero_le _⟩) hS (fun q _ h => hFc q h) hFc (fun r_100 u_100 t9 H1 locs ht9 hvm9 hw9 hB9 hz9 hk9 hS => ?_)
        have er_100 : r_100 = fX1_size m_75.2.2 := hw9
        obtain ⟨hP, hD⟩ := back_std (w1 := (wX1_size cI cB a_d1 a_dg1 m_75.2.1 m_75.2.2)) (w2 := (wX2_toRegister cI cB a_de a_ins a_mc a_me a_ps a_by a_ks a_rg a_d1 a_dg1 a_d2 a_src v_fb v_sb v_op v_i v_r v_s v_a v_b m_75.1 v_word v_bF v_kF v_rF m_75.2.1 m_75.2.2)) (wr := [(a_de, .inr (2, [.ref a_mc, .ref a_ins, .ref a_me, .ref a_d1, .ref a_d2, .ref a_src, .int v_fb, .int v_sb])), (a_ins, .inr (4, [.ref a_mc, .ref a_me, .int v_op, .int v_i, .int v_r, .int v_s, .int v_a, .int v_b])), (a_mc, .inr (5, [.ref a_me, .ref a_ps, .ref a_rg, .int m_75.1])), (a_me, .inr (6, [.ref a_by, .ref a_ks])), (a_ps, .inr (7, [.long v_word])), (a_by, .inl (cB, 8192, .inl v_bF)), (a_ks, .inl (cI, 4, .inl v_kF)), (a_rg, .inl (cI, 16, .inl v_rF))]) hP hD [8, 9] [0, 1, 2, 3, 4, 5, 6, 7] [0, 1, 2, 3, 4, 5, 6, 7, 8, 9] rfl rfl (by decide) (by decide) hk9 hFc hB9 ht9 (by decide) rfl
        clear hB9 hk9 hz9 hvm9 ht9 hFc hPc hDc
        generalize H1 = H at hP hS ⊢
        refine lv_lneg hx hb dX2_toRegister_103 ?_
        refine lv_goto (tgt := 114) hx hb dX2_toRegister_104 (by decide) ?_
        exact J_114 (-r_100) (by (try simp only [← er_100]); (try simp only [if_neg c_93])) _ _ hP hD hS ls (lv_sub hl [0] rfl)
    · skip
      have hf9 : (m_75.1, v_rF, m_75.2.1, m_75.2.2) = fX2_toRegister v_r v_a v_fault v_word v_bF v_kF v_rF v_below1 v_dF1 := by simp only [fX2_toRegister, ← eu_14, ← eu_30, ← er_37, ← em_75, ← er_79]; (try simp only [if_pos c_82])
      exact W.vret hx hb hr (fun t9 ht9 hW9 => ⟨⟨(m_75.1, v_rF, m_75.2.1, m_75.2.2), rfl, hf9, ⟨by rw [ht9]; exact hP, va_K.moved hW9.alike hK, hD⟩⟩, hS.F ht9⟩) hS.2.2 dX2_toRegister_85
  refine lv_if_eq (tgt := 75) hx hb dX2_toRegister_40 (by decide) (fun c_40 => ?_) (fun c_40 => ?_)
  · skip
    exact J_75 (u_30, v_below1, v_dF1) (by (try simp only [if_pos c_40])) _ _ hP hD hS ls (lv_sub hl [0] rfl)
  · skip
    refine lv_aload_n hx hb dX2_toRegister_43 rfl (lv_at hl 0 rfl) ?_
    refine va_get (D := D) (ci := 2) (v := .ref a_d1) (C := RX2) (T := TX2) (N := 8) hx hb hts in_X2 hown hK hP 0 rfl rfl 3 (by decide) q_2 (fun _ h9 => h9) rfl dX2_toRegister_44 ?_
    refine lv_aload_n hx hb dX2_toRegister_47 rfl (lv_at hl 0 rfl) ?_
    refine va_get (D := D) (ci := 2) (v := .ref a_me) (C := RX2) (T := TX2) (N := 8) hx hb hts in_X2 hown hK hP 0 rfl rfl 2 (by decide) q_3 (fun _ h9 => h9) rfl dX2_toRegister_48 ?_
    refine lv_aload_n hx hb dX2_toRegister_51 rfl (lv_at hl 0 rfl) ?_
    refine va_get (D := D) (ci := 2) (v := .ref a_ins) (C := RX2) (T := TX2) (N := 8) hx hb hts in_X2 hown hK hP 0 rfl rfl 1 (by decide) q_1 (fun _ h9 => h9) rfl dX2_toRegister_52 ?_
    refine va_getN (D := D) (ci := 4) (v := .int v_a) (C := RX4) (T := TX4) (N := 8) hx hb hts in_X4 hown hK hP 1 rfl rfl 6 (by decide) n_0 (fun _ h9 => h9) rfl dX2_toRegister_55 ?_
    refine lv_bipush (v := 8) hx hb dX2_toRegister_58 (by decide) ?_
    have hPc : va_P D vwCl (wX1_take cI cB a_me a_by a_ks a_d1 a_dg1 v_bF v_below1 v_dF1) H := hP.sub [3, 5, 8, 9] rfl
    have hDc : va_D A (wX1_take cI cB a_me a_by a_ks a_d1 a_dg1 v_bF v_below1 v_dF1) := hD.sub [3, 5, 8, 9] (by decide) rfl
    have hFc := va_free (wc := (wX1_take cI cB a_me a_by a_ks a_d1 a_dg1 v_bF v_below1 v_dF1)) hD hS hA [3, 5, 8, 9] rfl
    refine va_calli (va_runV (As := [.ref a_me, .int v_a, .int 8]) (rest := []) ⟨hx, hb, hml, hown, hts⟩ (kX1_take l D cI cB a_me a_by a_ks a_d1 a_dg1 H.size v_bF v_below1 v_dF1 v_a 8) (cwV 3 hts (gd_V wd_208 wd_209 wd_210 wd_138 wd_133) rfl rfl rfl hdX1_take ⟨Nat.le_of_ble_eq_true rfl, Nat.le_of_ble_eq_true rfl⟩) (preV_std (ci := 1) (q0 := 2) hPc hK hDc hNW rfl rfl) rfl rfl hl.1 rfl (lv_room (Nat.le_of_ble_eq_true rfl)) dX2_toRegister_60 ⟨Nat.zero_le _, Nat.zero_le _⟩) hS (fun q _ h => hFc q h) hFc (fun r_60 u_60 t9 H1 locs ht9 hvm9 hw9 hB9 hz9 hk9 hS => ?_)
    obtain ⟨er_60, eu_60⟩ := hw9
    have zr_60 : r_60 = 0 ∨ r_60 = 1 := by rw [er_60]; exact zX1_take _ _ _ _ _
    obtain ⟨hP, hD⟩ := back_std (w1 := (wX1_take cI cB a_me a_by a_ks a_d1 a_dg1 v_bF u_60.1 u_60.2)) (w2 := (wX2_toRegister cI cB a_de a_ins a_mc a_me a_ps a_by a_ks a_rg a_d1 a_dg1 a_d2 a_src v_fb v_sb v_op v_i v_r v_s v_a v_b u_30 v_word v_bF v_kF v_rF u_60.1 u_60.2)) (wr := [(a_de, .inr (2, [.ref a_mc, .ref a_ins, .ref a_me, .ref a_d1, .ref a_d2, .ref a_src, .int v_fb, .int v_sb])), (a_ins, .inr (4, [.ref a_mc, .ref a_me, .int v_op, .int v_i, .int v_r, .int v_s, .int v_a, .int v_b])), (a_mc, .inr (5, [.ref a_me, .ref a_ps, .ref a_rg, .int u_30])), (a_ps, .inr (7, [.long v_word])), (a_ks, .inl (cI, 4, .inl v_kF)), (a_rg, .inl (cI, 16, .inl v_rF))]) hP hD [3, 5, 8, 9] [0, 1, 2, 4, 6, 7] [0, 1, 2, 6, 3, 7, 4, 5, 8, 9] rfl rfl (by decide) (by decide) hk9 hFc hB9 ht9 (by decide) rfl
    clear hB9 hk9 hz9 hvm9 ht9 hFc hPc hDc
    generalize H1 = H at hP hS ⊢
    refine lv_if_ne (tgt := 75) hx hb dX2_toRegister_63 (by decide) (fun c_63 => ?_) (fun c_63 => ?_)
    · skip
      exact J_75 (u_30, u_60.1, u_60.2) (by (try simp only [← er_60, ← eu_60]); (try simp only [if_neg c_40, if_neg c_63])) _ _ hP hD hS ls (lv_sub hl [0] rfl)
    · skip
      refine lv_aload_n hx hb dX2_toRegister_66 rfl (lv_at hl 0 rfl) ?_
      refine va_get (D := D) (ci := 2) (v := .ref a_mc) (C := RX2) (T := TX2) (N := 8) hx hb hts in_X2 hown hK hP 0 rfl rfl 0 (by decide) q_0 (fun _ h9 => h9) rfl dX2_toRegister_67 ?_
      refine lv_bipush (v := 7) hx hb dX2_toRegister_70 (by decide) ?_
      have hPc : va_P D vwCl (wX5_fail cI cB a_mc a_me a_ps a_rg u_30) H := hP.sub [2] rfl
      have hDc : va_D A (wX5_fail cI cB a_mc a_me a_ps a_rg u_30) := hD.sub [2] (by decide) rfl
      have hFc := va_free (wc := (wX5_fail cI cB a_mc a_me a_ps a_rg u_30)) hD hS hA [2] rfl
      refine va_callv (va_runV (As := [.int 7]) (rest := []) ⟨hx, hb, hml, hown, hts⟩ (kX5_fail l D cI cB a_mc a_me a_ps a_rg H.size u_30 7) (cwV 1 hts (gd_V wd_211 wd_54 wd_55 wd_24 wd_46) rfl rfl rfl hdX5_fail ⟨Nat.le_of_ble_eq_true rfl, Nat.le_of_ble_eq_true rfl⟩) (preV_std (ci := 5) (q0 := 0) hPc hK hDc hNW rfl rfl) rfl rfl hl.1 rfl (lv_room (Nat.le_of_ble_eq_true rfl)) dX2_toRegister_72 ⟨Nat.zero_le _, Nat.zero_le _⟩) hS (fun q _ h => hFc q h) hFc (fun u_72 t9 H1 locs ht9 hvm9 hw9 hB9 hz9 hk9 hS => ?_)
      have eu_72 : u_72 = fX5_fail 7 u_30 := hw9
      obtain ⟨hP, hD⟩ := back_std (w1 := (wX5_fail cI cB a_mc a_me a_ps a_rg u_72)) (w2 := (wX2_toRegister cI cB a_de a_ins a_mc a_me a_ps a_by a_ks a_rg a_d1 a_dg1 a_d2 a_src v_fb v_sb v_op v_i v_r v_s v_a v_b u_72 v_word v_bF v_kF v_rF u_60.1 u_60.2)) (wr := [(a_de, .inr (2, [.ref a_mc, .ref a_ins, .ref a_me, .ref a_d1, .ref a_d2, .ref a_src, .int v_fb, .int v_sb])), (a_ins, .inr (4, [.ref a_mc, .ref a_me, .int v_op, .int v_i, .int v_r, .int v_s, .int v_a, .int v_b])), (a_me, .inr (6, [.ref a_by, .ref a_ks])), (a_ps, .inr (7, [.long v_word])), (a_by, .inl (cB, 8192, .inl v_bF)), (a_ks, .inl (cI, 4, .inl v_kF)), (a_rg, .inl (cI, 16, .inl v_rF)), (a_d1, .inr (1, [.ref a_dg1, .int u_60.1])), (a_dg1, .inl (cI, 32, .inl u_60.2))]) hP hD [2] [0, 1, 3, 4, 5, 6, 7, 8, 9] [0, 1, 9, 2, 3, 4, 5, 6, 7, 8] rfl rfl (by decide) (by decide) hk9 hFc hB9 ht9 (by decide) rfl
      clear hB9 hk9 hz9 hvm9 ht9 hFc hPc hDc
      generalize H1 = H at hP hS ⊢
      exact J_75 (u_72, u_60.1, u_60.2) (by (try simp only [← er_60, ← eu_60, ← eu_72]); (try simp only [if_neg c_40, if_pos c_63])) _ _ hP hD hS ls (lv_sub hl [0] rfl)
theorem hdX2_toRegister : yX2_toRegister.cls = RX2 ∧ yX2_toRegister.cls ≠ "java/lang/invoke/MethodHandle" ∧ yX2_toRegister.cls ≠ "java/lang/invoke/VarHandle" ∧ (parseMethodDescriptor yX2_toRegister.desc).map (fun d => d.parameters.length) = some 0 := by decide +kernel
noncomputable def fX2_sourceHalf (x0 : Int32) (v_sb : Int32) (v_srcF : (Nat → Int32)) : Int32 :=
  if (x0 / 2) < v_sb then (let x_23 := (v_srcF (((x0 / 2) &&& 15) : Int32).toNatClampNeg); if (x0 - x0 / 2 * 2) = 0 then ((x_23 &&& 15)) else ((x_23 >>> (4 &&& 31)))) else (0)
abbrev wX2_sourceHalf (cI cB : ClassId) (a_de a_ins a_mc a_me a_d1 a_d2 a_src : Nat) (v_fb : Int32) (v_sb : Int32) (v_srcF : (Nat → Int32)) : va_W := [(a_de, .inr (2, [.ref a_mc, .ref a_ins, .ref a_me, .ref a_d1, .ref a_d2, .ref a_src, .int v_fb, .int v_sb])), (a_src, .inl (cI, 16, .inl v_srcF))]
abbrev rmX2_sourceHalf : Room := { frames := 0, cells := 0, slots := 0, locals := 0 }
abbrev qX2_sourceHalf (D : va_G) (cI cB : ClassId) (a_de a_ins a_mc a_me a_d1 a_d2 a_src : Nat) (v_fb : Int32) (v_sb : Int32) (v_srcF : (Nat → Int32)) (x0 : Int32) : (Nat → Prop) → Array Value → State → Outcome → State → Prop := fun A9 => va_Qi (fun (r9 : Int32) (u9 : Unit) => r9 = fX2_sourceHalf x0 v_sb v_srcF) (fun u9 t9 => atW D (TYS cI cB) A9 (wX2_sourceHalf cI cB a_de a_ins a_mc a_me a_d1 a_d2 a_src v_fb v_sb v_srcF) t9) A9
set_option maxHeartbeats 4000000 in
set_option maxRecDepth 100000 in
theorem kX2_sourceHalf (l : Launch) (D : va_G) (cI cB : ClassId) (a_de a_ins a_mc a_me a_d1 a_d2 a_src : Nat) (sz : Nat) (v_fb : Int32) (v_sb : Int32) (v_srcF : (Nat → Int32)) (x0 : Int32) : MetW l yX2_sourceHalf (WK yX2_sourceHalf cX2_sourceHalf 3 (some .int)) rmX2_sourceHalf D (TYS cI cB) (wX2_sourceHalf cI cB a_de a_ins a_mc a_me a_d1 a_d2 a_src v_fb v_sb v_srcF) sz [.ref a_de, .int x0] (qX2_sourceHalf D cI cB a_de a_ins a_mc a_me a_d1 a_d2 a_src v_fb v_sb v_srcF x0) 0 0 := by
  refine met_std (by decide) rfl (Nat.le_of_ble_eq_true rfl) ?_
  intro p e s m below meth c A ls H hx hb hr hml hown hts hlocks hA hP hK hD hS hNW hl
  have hl : lv_has ls 3 [(0, .ref a_de), (1, .int x0)] := hl
  have q_0 := hts _ (List.mem_cons_of_mem _ wd_218)
  have q_1 := hts _ (List.mem_cons_of_mem _ wd_195)
  refine lv_iload_n hx hb dX2_sourceHalf_0 rfl (lv_at hl 1 rfl) ?_
  refine lv_iconst (v := 2) hx hb dX2_sourceHalf_1 (by decide) ?_
  refine lv_idiv hx hb dX2_sourceHalf_2 (by decide) ?_
  refine lv_aload_n hx hb dX2_sourceHalf_3 rfl (lv_at hl 0 rfl) ?_
  refine va_get (D := D) (ci := 2) (v := .int v_sb) (C := RX2) (T := TX2) (N := 8) hx hb hts in_X2 hown hK hP 0 rfl rfl 7 (by decide) q_0 (fun _ h9 => h9) rfl dX2_sourceHalf_4 ?_
  refine lv_icmp_lt (tgt := 12) hx hb dX2_sourceHalf_7 (by decide) (fun c_7 => ?_) (fun c_7 => ?_)
  · skip
    refine lv_aload_n hx hb dX2_sourceHalf_12 rfl (lv_at hl 0 rfl) ?_
    refine va_get (D := D) (ci := 2) (v := .ref a_src) (C := RX2) (T := TX2) (N := 8) hx hb hts in_X2 hown hK hP 0 rfl rfl 5 (by decide) q_1 (fun _ h9 => h9) rfl dX2_sourceHalf_13 ?_
    refine lv_iload_n hx hb dX2_sourceHalf_16 rfl (lv_at hl 1 rfl) ?_
    refine lv_iconst (v := 2) hx hb dX2_sourceHalf_17 (by decide) ?_
    refine lv_idiv hx hb dX2_sourceHalf_18 (by decide) ?_
    refine lv_bipush (v := 15) hx hb dX2_sourceHalf_19 (by decide) ?_
    refine lv_iand hx hb dX2_sourceHalf_21 ?_
    refine va_iald hx hb hK hP 1 0 rfl rfl (pk_andIn _ 4 (by decide) (by decide)) dX2_sourceHalf_22 ?_
    refine lv_topi (fun x_23 ex_23 => ?_)
    refine lv_istore_n (lv' := [(2, .int x_23), (0, .ref a_de), (1, .int x0)]) hx hb dX2_sourceHalf_23 rfl hl (by decide) rfl (fun ls hl => ?_)
    refine lv_iload_n hx hb dX2_sourceHalf_24 rfl (lv_at hl 2 rfl) ?_
    refine lv_iconst (v := 2) hx hb dX2_sourceHalf_25 (by decide) ?_
    refine lv_irem hx hb dX2_sourceHalf_26 (by decide) ?_
    refine lv_if_ne (tgt := 37) hx hb dX2_sourceHalf_27 (by decide) (fun c_27 => ?_) (fun c_27 => ?_)
    · skip
      refine lv_iload_n hx hb dX2_sourceHalf_37 rfl (lv_at hl 0 rfl) ?_
      refine lv_iconst (v := 4) hx hb dX2_sourceHalf_38 (by decide) ?_
      refine lv_ishr hx hb dX2_sourceHalf_39 ?_
      have hf9 : (x_23 >>> (4 &&& 31)) = fX2_sourceHalf x0 v_sb v_srcF := by subst ex_23; simp only [fX2_sourceHalf]; (try simp only [if_pos c_7, if_neg c_27])
      exact W.iret hx hb hr (fun t9 ht9 hW9 => ⟨⟨(x_23 >>> (4 &&& 31)), (), rfl, hf9, ⟨by rw [ht9]; exact hP, va_K.moved hW9.alike hK, hD⟩⟩, hS.F ht9⟩) hS.2.2 dX2_sourceHalf_40
    · skip
      refine lv_iload_n hx hb dX2_sourceHalf_30 rfl (lv_at hl 0 rfl) ?_
      refine lv_bipush (v := 15) hx hb dX2_sourceHalf_31 (by decide) ?_
      refine lv_iand hx hb dX2_sourceHalf_33 ?_
      refine lv_goto (tgt := 40) hx hb dX2_sourceHalf_34 (by decide) ?_
      have hf9 : (x_23 &&& 15) = fX2_sourceHalf x0 v_sb v_srcF := by subst ex_23; simp only [fX2_sourceHalf]; (try simp only [if_pos c_7, if_pos c_27])
      exact W.iret hx hb hr (fun t9 ht9 hW9 => ⟨⟨(x_23 &&& 15), (), rfl, hf9, ⟨by rw [ht9]; exact hP, va_K.moved hW9.alike hK, hD⟩⟩, hS.F ht9⟩) hS.2.2 dX2_sourceHalf_40
  · skip
    refine lv_iconst (v := 0) hx hb dX2_sourceHalf_10 (by decide) ?_
    have hf9 : 0 = fX2_sourceHalf x0 v_sb v_srcF := by simp only [fX2_sourceHalf]; (try simp only [if_neg c_7])
    exact W.iret hx hb hr (fun t9 ht9 hW9 => ⟨⟨0, (), rfl, hf9, ⟨by rw [ht9]; exact hP, va_K.moved hW9.alike hK, hD⟩⟩, hS.F ht9⟩) hS.2.2 dX2_sourceHalf_11
theorem hdX2_sourceHalf : yX2_sourceHalf.cls = RX2 ∧ yX2_sourceHalf.cls ≠ "java/lang/invoke/MethodHandle" ∧ yX2_sourceHalf.cls ≠ "java/lang/invoke/VarHandle" ∧ (parseMethodDescriptor yX2_sourceHalf.desc).map (fun d => d.parameters.length) = some 1 := by decide +kernel
noncomputable def fX2_moved (x0 : Int32) (x1 : Int32) (v_sb : Int32) (v_op : Int32) (v_srcF : (Nat → Int32)) : Int32 :=
  if v_op = 241 then (let r_17 := fX2_sourceHalf (2 * x0) v_sb v_srcF; if x0 = 0 then (((r_17 <<< (4 &&& 31)) ||| x1)) else (let r_36 := fX2_sourceHalf ((2 * x0) - 1) v_sb v_srcF; ((r_17 <<< (4 &&& 31)) ||| r_36))) else (if x0 = 0 then (let r_47 := fX2_sourceHalf 0 v_sb v_srcF; let r_54 := fX2_sourceHalf 1 v_sb v_srcF; ((r_47 <<< (4 &&& 31)) ||| r_54)) else (if v_op = 242 then (let r_76 := fX2_sourceHalf (4 * x0) v_sb v_srcF; let r_87 := fX2_sourceHalf ((4 * x0) - 2) v_sb v_srcF; ((r_76 <<< (4 &&& 31)) ||| r_87)) else (let r_99 := fX2_sourceHalf (x0 + 1) v_sb v_srcF; (240 ||| r_99))))
abbrev wX2_moved (cI cB : ClassId) (a_de a_ins a_mc a_me a_d1 a_d2 a_src : Nat) (v_fb : Int32) (v_sb : Int32) (v_op : Int32) (v_i : Int32) (v_r : Int32) (v_s : Int32) (v_a : Int32) (v_b : Int32) (v_srcF : (Nat → Int32)) : va_W := [(a_de, .inr (2, [.ref a_mc, .ref a_ins, .ref a_me, .ref a_d1, .ref a_d2, .ref a_src, .int v_fb, .int v_sb])), (a_ins, .inr (4, [.ref a_mc, .ref a_me, .int v_op, .int v_i, .int v_r, .int v_s, .int v_a, .int v_b])), (a_src, .inl (cI, 16, .inl v_srcF))]
abbrev rmX2_moved : Room := { frames := 1, cells := 0, slots := 0, locals := 22 }
abbrev qX2_moved (D : va_G) (cI cB : ClassId) (a_de a_ins a_mc a_me a_d1 a_d2 a_src : Nat) (v_fb : Int32) (v_sb : Int32) (v_op : Int32) (v_i : Int32) (v_r : Int32) (v_s : Int32) (v_a : Int32) (v_b : Int32) (v_srcF : (Nat → Int32)) (x0 : Int32) (x1 : Int32) : (Nat → Prop) → Array Value → State → Outcome → State → Prop := fun A9 => va_Qi (fun (r9 : Int32) (u9 : Unit) => r9 = fX2_moved x0 x1 v_sb v_op v_srcF) (fun u9 t9 => atW D (TYS cI cB) A9 (wX2_moved cI cB a_de a_ins a_mc a_me a_d1 a_d2 a_src v_fb v_sb v_op v_i v_r v_s v_a v_b v_srcF) t9) A9
set_option maxHeartbeats 4000000 in
set_option maxRecDepth 100000 in
theorem kX2_moved (l : Launch) (D : va_G) (cI cB : ClassId) (a_de a_ins a_mc a_me a_d1 a_d2 a_src : Nat) (sz : Nat) (v_fb : Int32) (v_sb : Int32) (v_op : Int32) (v_i : Int32) (v_r : Int32) (v_s : Int32) (v_a : Int32) (v_b : Int32) (v_srcF : (Nat → Int32)) (x0 : Int32) (x1 : Int32) : MetW l yX2_moved (WK yX2_moved cX2_moved 3 (some .int)) rmX2_moved D (TYS cI cB) (wX2_moved cI cB a_de a_ins a_mc a_me a_d1 a_d2 a_src v_fb v_sb v_op v_i v_r v_s v_a v_b v_srcF) sz [.ref a_de, .int x0, .int x1] (qX2_moved D cI cB a_de a_ins a_mc a_me a_d1 a_d2 a_src v_fb v_sb v_op v_i v_r v_s v_a v_b v_srcF x0 x1) 0 0 := by
  refine met_std (by decide) rfl (Nat.le_of_ble_eq_true rfl) ?_
  intro p e s m below meth c A ls H hx hb hr hml hown hts hlocks hA hP hK hD hS hNW hl
  have hl : lv_has ls 3 [(0, .ref a_de), (1, .int x0), (2, .int x1)] := hl
  have q_0 := hts _ (List.mem_cons_of_mem _ wd_189)
  have n_0 := hNW.f (A := ([.ref a_de, .int x0, .int x1] : List Value).toArray) ("MainframeCore$Decimals", 120, "MainframeCore$Instruction", "operation", "I", "MainframeCore") (by decide +kernel)
  refine lv_aload_n hx hb dX2_moved_0 rfl (lv_at hl 0 rfl) ?_
  refine va_get (D := D) (ci := 2) (v := .ref a_ins) (C := RX2) (T := TX2) (N := 8) hx hb hts in_X2 hown hK hP 0 rfl rfl 1 (by decide) q_0 (fun _ h9 => h9) rfl dX2_moved_1 ?_
  refine va_getN (D := D) (ci := 4) (v := .int v_op) (C := RX4) (T := TX4) (N := 8) hx hb hts in_X4 hown hK hP 1 rfl rfl 2 (by decide) n_0 (fun _ h9 => h9) rfl dX2_moved_4 ?_
  refine lv_sipush (v := 241) hx hb dX2_moved_7 (by decide) ?_
  refine lv_icmp_ne (tgt := 41) hx hb dX2_moved_10 (by decide) (fun c_10 => ?_) (fun c_10 => ?_)
  · skip
    refine lv_iload_n hx hb dX2_moved_41 rfl (lv_at hl 1 rfl) ?_
    refine lv_if_ne (tgt := 59) hx hb dX2_moved_42 (by decide) (fun c_42 => ?_) (fun c_42 => ?_)
    · skip
      refine lv_aload_n hx hb dX2_moved_59 rfl (lv_at hl 0 rfl) ?_
      refine va_get (D := D) (ci := 2) (v := .ref a_ins) (C := RX2) (T := TX2) (N := 8) hx hb hts in_X2 hown hK hP 0 rfl rfl 1 (by decide) q_0 (fun _ h9 => h9) rfl dX2_moved_60 ?_
      refine va_getN (D := D) (ci := 4) (v := .int v_op) (C := RX4) (T := TX4) (N := 8) hx hb hts in_X4 hown hK hP 1 rfl rfl 2 (by decide) n_0 (fun _ h9 => h9) rfl dX2_moved_63 ?_
      refine lv_sipush (v := 242) hx hb dX2_moved_66 (by decide) ?_
      refine lv_icmp_ne (tgt := 92) hx hb dX2_moved_69 (by decide) (fun c_69 => ?_) (fun c_69 => ?_)
      · skip
        refine lv_sipush (v := 240) hx hb dX2_moved_92 (by decide) ?_
        refine lv_aload_n hx hb dX2_moved_95 rfl (lv_at hl 0 rfl) ?_
        refine lv_iload_n hx hb dX2_moved_96 rfl (lv_at hl 1 rfl) ?_
        refine lv_iconst (v := 1) hx hb dX2_moved_97 (by decide) ?_
        refine lv_iadd hx hb dX2_moved_98 ?_
        have hPc : va_P D vwCl (wX2_sourceHalf cI cB a_de a_ins a_mc a_me a_d1 a_d2 a_src v_fb v_sb v_srcF) H := hP.sub [0, 2] rfl
        have hDc : va_D A (wX2_sourceHalf cI cB a_de a_ins a_mc a_me a_d1 a_d2 a_src v_fb v_sb v_srcF) := hD.sub [0, 2] (by decide) rfl
        have hFc := va_free (wc := (wX2_sourceHalf cI cB a_de a_ins a_mc a_me a_d1 a_d2 a_src v_fb v_sb v_srcF)) hD hS hA [0, 2] rfl
        refine va_calli (va_runV (As := [.int (x0 + 1)]) (rest := [.int 240]) ⟨hx, hb, hml, hown, hts⟩ (kX2_sourceHalf l D cI cB a_de a_ins a_mc a_me a_d1 a_d2 a_src H.size v_fb v_sb v_srcF (x0 + 1)) (cwV 1 hts (gd_V wd_222 wd_223 wd_224 wd_225 wd_220) rfl rfl rfl hdX2_sourceHalf ⟨Nat.le_of_ble_eq_true rfl, Nat.le_of_ble_eq_true rfl⟩) (preV_std (ci := 2) (q0 := 0) hPc hK hDc hNW rfl rfl) rfl rfl hl.1 rfl (lv_room (Nat.le_of_ble_eq_true rfl)) dX2_moved_99 ⟨Nat.zero_le _, Nat.zero_le _⟩) hS (fun q _ h => hFc q h) hFc (fun r_99 u_99 t9 H1 locs ht9 hvm9 hw9 hB9 hz9 hk9 hS => ?_)
        have er_99 : r_99 = fX2_sourceHalf (x0 + 1) v_sb v_srcF := hw9
        obtain ⟨hP, hD⟩ := back_std (w1 := (wX2_sourceHalf cI cB a_de a_ins a_mc a_me a_d1 a_d2 a_src v_fb v_sb v_srcF)) (w2 := (wX2_moved cI cB a_de a_ins a_mc a_me a_d1 a_d2 a_src v_fb v_sb v_op v_i v_r v_s v_a v_b v_srcF)) (wr := [(a_ins, .inr (4, [.ref a_mc, .ref a_me, .int v_op, .int v_i, .int v_r, .int v_s, .int v_a, .int v_b]))]) hP hD [0, 2] [1] [1, 0, 2] rfl rfl (by decide) (by decide) hk9 hFc hB9 ht9 (by decide) rfl
        clear hB9 hk9 hz9 hvm9 ht9 hFc hPc hDc
        generalize H1 = H at hP hS ⊢
        refine lv_ior hx hb dX2_moved_102 ?_
        have hf9 : (240 ||| r_99) = fX2_moved x0 x1 v_sb v_op v_srcF := by simp only [fX2_moved, ← er_99]; (try simp only [if_neg c_10, if_neg c_42, if_neg c_69])
        exact W.iret hx hb hr (fun t9 ht9 hW9 => ⟨⟨(240 ||| r_99), (), rfl, hf9, ⟨by rw [ht9]; exact hP, va_K.moved hW9.alike hK, hD⟩⟩, hS.F ht9⟩) hS.2.2 dX2_moved_103
      · skip
        refine lv_aload_n hx hb dX2_moved_72 rfl (lv_at hl 0 rfl) ?_
        refine lv_iconst (v := 4) hx hb dX2_moved_73 (by decide) ?_
        refine lv_iload_n hx hb dX2_moved_74 rfl (lv_at hl 1 rfl) ?_
        refine lv_imul hx hb dX2_moved_75 ?_
        have hPc : va_P D vwCl (wX2_sourceHalf cI cB a_de a_ins a_mc a_me a_d1 a_d2 a_src v_fb v_sb v_srcF) H := hP.sub [0, 2] rfl
        have hDc : va_D A (wX2_sourceHalf cI cB a_de a_ins a_mc a_me a_d1 a_d2 a_src v_fb v_sb v_srcF) := hD.sub [0, 2] (by decide) rfl
        have hFc := va_free (wc := (wX2_sourceHalf cI cB a_de a_ins a_mc a_me a_d1 a_d2 a_src v_fb v_sb v_srcF)) hD hS hA [0, 2] rfl
        refine va_calli (va_runV (As := [.int (4 * x0)]) (rest := []) ⟨hx, hb, hml, hown, hts⟩ (kX2_sourceHalf l D cI cB a_de a_ins a_mc a_me a_d1 a_d2 a_src H.size v_fb v_sb v_srcF (4 * x0)) (cwV 1 hts (gd_V wd_222 wd_223 wd_224 wd_225 wd_220) rfl rfl rfl hdX2_sourceHalf ⟨Nat.le_of_ble_eq_true rfl, Nat.le_of_ble_eq_true rfl⟩) (preV_std (ci := 2) (q0 := 0) hPc hK hDc hNW rfl rfl) rfl rfl hl.1 rfl (lv_room (Nat.le_of_ble_eq_true rfl)) dX2_moved_76 ⟨Nat.zero_le _, Nat.zero_le _⟩) hS (fun q _ h => hFc q h) hFc (fun r_76 u_76 t9 H1 locs ht9 hvm9 hw9 hB9 hz9 hk9 hS => ?_)
        have er_76 : r_76 = fX2_sourceHalf (4 * x0) v_sb v_srcF := hw9
        obtain ⟨hP, hD⟩ := back_std (w1 := (wX2_sourceHalf cI cB a_de a_ins a_mc a_me a_d1 a_d2 a_src v_fb v_sb v_srcF)) (w2 := (wX2_moved cI cB a_de a_ins a_mc a_me a_d1 a_d2 a_src v_fb v_sb v_op v_i v_r v_s v_a v_b v_srcF)) (wr := [(a_ins, .inr (4, [.ref a_mc, .ref a_me, .int v_op, .int v_i, .int v_r, .int v_s, .int v_a, .int v_b]))]) hP hD [0, 2] [1] [1, 0, 2] rfl rfl (by decide) (by decide) hk9 hFc hB9 ht9 (by decide) rfl
        clear hB9 hk9 hz9 hvm9 ht9 hFc hPc hDc
        generalize H1 = H at hP hS ⊢
        refine lv_iconst (v := 4) hx hb dX2_moved_79 (by decide) ?_
        refine lv_ishl hx hb dX2_moved_80 ?_
        refine lv_aload_n hx hb dX2_moved_81 rfl (lv_at hl 0 rfl) ?_
        refine lv_iconst (v := 4) hx hb dX2_moved_82 (by decide) ?_
        refine lv_iload_n hx hb dX2_moved_83 rfl (lv_at hl 1 rfl) ?_
        refine lv_imul hx hb dX2_moved_84 ?_
        refine lv_iconst (v := 2) hx hb dX2_moved_85 (by decide) ?_
        refine lv_isub hx hb dX2_moved_86 ?_
        have hPc : va_P D vwCl (wX2_sourceHalf cI cB a_de a_ins a_mc a_me a_d1 a_d2 a_src v_fb v_sb v_srcF) H := hP.sub [0, 2] rfl
        have hDc : va_D A (wX2_sourceHalf cI cB a_de a_ins a_mc a_me a_d1 a_d2 a_src v_fb v_sb v_srcF) := hD.sub [0, 2] (by decide) rfl
        have hFc := va_free (wc := (wX2_sourceHalf cI cB a_de a_ins a_mc a_me a_d1 a_d2 a_src v_fb v_sb v_srcF)) hD hS hA [0, 2] rfl
        refine va_calli (va_runV (As := [.int (((4 * x0) - 2))]) (rest := [.int ((r_76 <<< (4 &&& 31)))]) ⟨hx, hb, hml, hown, hts⟩ (kX2_sourceHalf l D cI cB a_de a_ins a_mc a_me a_d1 a_d2 a_src H.size v_fb v_sb v_srcF ((4 * x0) - 2)) (cwV 1 hts (gd_V wd_222 wd_223 wd_224 wd_225 wd_220) rfl rfl rfl hdX2_sourceHalf ⟨Nat.le_of_ble_eq_true rfl, Nat.le_of_ble_eq_true rfl⟩) (preV_std (ci := 2) (q0 := 0) hPc hK hDc hNW rfl rfl) rfl rfl hl.1 rfl (lv_room (Nat.le_of_ble_eq_true rfl)) dX2_moved_87 ⟨Nat.zero_le _, Nat.zero_le _⟩) hS (fun q _ h => hFc q h) hFc (fun r_87 u_87 t9 H1 locs ht9 hvm9 hw9 hB9 hz9 hk9 hS => ?_)
        have er_87 : r_87 = fX2_sourceHalf ((4 * x0) - 2) v_sb v_srcF := hw9
        obtain ⟨hP, hD⟩ := back_std (w1 := (wX2_sourceHalf cI cB a_de a_ins a_mc a_me a_d1 a_d2 a_src v_fb v_sb v_srcF)) (w2 := (wX2_moved cI cB a_de a_ins a_mc a_me a_d1 a_d2 a_src v_fb v_sb v_op v_i v_r v_s v_a v_b v_srcF)) (wr := [(a_ins, .inr (4, [.ref a_mc, .ref a_me, .int v_op, .int v_i, .int v_r, .int v_s, .int v_a, .int v_b]))]) hP hD [0, 2] [1] [1, 0, 2] rfl rfl (by decide) (by decide) hk9 hFc hB9 ht9 (by decide) rfl
        clear hB9 hk9 hz9 hvm9 ht9 hFc hPc hDc
        generalize H1 = H at hP hS ⊢
        refine lv_ior hx hb dX2_moved_90 ?_
        have hf9 : ((r_76 <<< (4 &&& 31)) ||| r_87) = fX2_moved x0 x1 v_sb v_op v_srcF := by simp only [fX2_moved, ← er_76, ← er_87]; (try simp only [if_neg c_10, if_neg c_42, if_pos c_69])
        exact W.iret hx hb hr (fun t9 ht9 hW9 => ⟨⟨((r_76 <<< (4 &&& 31)) ||| r_87), (), rfl, hf9, ⟨by rw [ht9]; exact hP, va_K.moved hW9.alike hK, hD⟩⟩, hS.F ht9⟩) hS.2.2 dX2_moved_91
    · skip
      refine lv_aload_n hx hb dX2_moved_45 rfl (lv_at hl 0 rfl) ?_
      refine lv_iconst (v := 0) hx hb dX2_moved_46 (by decide) ?_
      have hPc : va_P D vwCl (wX2_sourceHalf cI cB a_de a_ins a_mc a_me a_d1 a_d2 a_src v_fb v_sb v_srcF) H := hP.sub [0, 2] rfl
      have hDc : va_D A (wX2_sourceHalf cI cB a_de a_ins a_mc a_me a_d1 a_d2 a_src v_fb v_sb v_srcF) := hD.sub [0, 2] (by decide) rfl
      have hFc := va_free (wc := (wX2_sourceHalf cI cB a_de a_ins a_mc a_me a_d1 a_d2 a_src v_fb v_sb v_srcF)) hD hS hA [0, 2] rfl
      refine va_calli (va_runV (As := [.int 0]) (rest := []) ⟨hx, hb, hml, hown, hts⟩ (kX2_sourceHalf l D cI cB a_de a_ins a_mc a_me a_d1 a_d2 a_src H.size v_fb v_sb v_srcF 0) (cwV 1 hts (gd_V wd_222 wd_223 wd_224 wd_225 wd_220) rfl rfl rfl hdX2_sourceHalf ⟨Nat.le_of_ble_eq_true rfl, Nat.le_of_ble_eq_true rfl⟩) (preV_std (ci := 2) (q0 := 0) hPc hK hDc hNW rfl rfl) rfl rfl hl.1 rfl (lv_room (Nat.le_of_ble_eq_true rfl)) dX2_moved_47 ⟨Nat.zero_le _, Nat.zero_le _⟩) hS (fun q _ h => hFc q h) hFc (fun r_47 u_47 t9 H1 locs ht9 hvm9 hw9 hB9 hz9 hk9 hS => ?_)
      have er_47 : r_47 = fX2_sourceHalf 0 v_sb v_srcF := hw9
      obtain ⟨hP, hD⟩ := back_std (w1 := (wX2_sourceHalf cI cB a_de a_ins a_mc a_me a_d1 a_d2 a_src v_fb v_sb v_srcF)) (w2 := (wX2_moved cI cB a_de a_ins a_mc a_me a_d1 a_d2 a_src v_fb v_sb v_op v_i v_r v_s v_a v_b v_srcF)) (wr := [(a_ins, .inr (4, [.ref a_mc, .ref a_me, .int v_op, .int v_i, .int v_r, .int v_s, .int v_a, .int v_b]))]) hP hD [0, 2] [1] [1, 0, 2] rfl rfl (by decide) (by decide) hk9 hFc hB9 ht9 (by decide) rfl
      clear hB9 hk9 hz9 hvm9 ht9 hFc hPc hDc
      generalize H1 = H at hP hS ⊢
      refine lv_iconst (v := 4) hx hb dX2_moved_50 (by decide) ?_
      refine lv_ishl hx hb dX2_moved_51 ?_
      refine lv_aload_n hx hb dX2_moved_52 rfl (lv_at hl 0 rfl) ?_
      refine lv_iconst (v := 1) hx hb dX2_moved_53 (by decide) ?_
      have hPc : va_P D vwCl (wX2_sourceHalf cI cB a_de a_ins a_mc a_me a_d1 a_d2 a_src v_fb v_sb v_srcF) H := hP.sub [0, 2] rfl
      have hDc : va_D A (wX2_sourceHalf cI cB a_de a_ins a_mc a_me a_d1 a_d2 a_src v_fb v_sb v_srcF) := hD.sub [0, 2] (by decide) rfl
      have hFc := va_free (wc := (wX2_sourceHalf cI cB a_de a_ins a_mc a_me a_d1 a_d2 a_src v_fb v_sb v_srcF)) hD hS hA [0, 2] rfl
      refine va_calli (va_runV (As := [.int 1]) (rest := [.int ((r_47 <<< (4 &&& 31)))]) ⟨hx, hb, hml, hown, hts⟩ (kX2_sourceHalf l D cI cB a_de a_ins a_mc a_me a_d1 a_d2 a_src H.size v_fb v_sb v_srcF 1) (cwV 1 hts (gd_V wd_222 wd_223 wd_224 wd_225 wd_220) rfl rfl rfl hdX2_sourceHalf ⟨Nat.le_of_ble_eq_true rfl, Nat.le_of_ble_eq_true rfl⟩) (preV_std (ci := 2) (q0 := 0) hPc hK hDc hNW rfl rfl) rfl rfl hl.1 rfl (lv_room (Nat.le_of_ble_eq_true rfl)) dX2_moved_54 ⟨Nat.zero_le _, Nat.zero_le _⟩) hS (fun q _ h => hFc q h) hFc (fun r_54 u_54 t9 H1 locs ht9 hvm9 hw9 hB9 hz9 hk9 hS => ?_)
      have er_54 : r_54 = fX2_sourceHalf 1 v_sb v_srcF := hw9
      obtain ⟨hP, hD⟩ := back_std (w1 := (wX2_sourceHalf cI cB a_de a_ins a_mc a_me a_d1 a_d2 a_src v_fb v_sb v_srcF)) (w2 := (wX2_moved cI cB a_de a_ins a_mc a_me a_d1 a_d2 a_src v_fb v_sb v_op v_i v_r v_s v_a v_b v_srcF)) (wr := [(a_ins, .inr (4, [.ref a_mc, .ref a_me, .int v_op, .int v_i, .int v_r, .int v_s, .int v_a, .int v_b]))]) hP hD [0, 2] [1] [1, 0, 2] rfl rfl (by decide) (by decide) hk9 hFc hB9 ht9 (by decide) rfl
      clear hB9 hk9 hz9 hvm9 ht9 hFc hPc hDc
      generalize H1 = H at hP hS ⊢
      refine lv_ior hx hb dX2_moved_57 ?_
      have hf9 : ((r_47 <<< (4 &&& 31)) ||| r_54) = fX2_moved x0 x1 v_sb v_op v_srcF := by simp only [fX2_moved, ← er_47, ← er_54]; (try simp only [if_neg c_10, if_pos c_42])
      exact W.iret hx hb hr (fun t9 ht9 hW9 => ⟨⟨((r_47 <<< (4 &&& 31)) ||| r_54), (), rfl, hf9, ⟨by rw [ht9]; exact hP, va_K.moved hW9.alike hK, hD⟩⟩, hS.F ht9⟩) hS.2.2 dX2_moved_58
  · skip
    refine lv_aload_n hx hb dX2_moved_13 rfl (lv_at hl 0 rfl) ?_
    refine lv_iconst (v := 2) hx hb dX2_moved_14 (by decide) ?_
    refine lv_iload_n hx hb dX2_moved_15 rfl (lv_at hl 1 rfl) ?_
    refine lv_imul hx hb dX2_moved_16 ?_
    have hPc : va_P D vwCl (wX2_sourceHalf cI cB a_de a_ins a_mc a_me a_d1 a_d2 a_src v_fb v_sb v_srcF) H := hP.sub [0, 2] rfl
    have hDc : va_D A (wX2_sourceHalf cI cB a_de a_ins a_mc a_me a_d1 a_d2 a_src v_fb v_sb v_srcF) := hD.sub [0, 2] (by decide) rfl
    have hFc := va_free (wc := (wX2_sourceHalf cI cB a_de a_ins a_mc a_me a_d1 a_d2 a_src v_fb v_sb v_srcF)) hD hS hA [0, 2] rfl
    refine va_calli (va_runV (As := [.int (2 * x0)]) (rest := []) ⟨hx, hb, hml, hown, hts⟩ (kX2_sourceHalf l D cI cB a_de a_ins a_mc a_me a_d1 a_d2 a_src H.size v_fb v_sb v_srcF (2 * x0)) (cwV 1 hts (gd_V wd_222 wd_223 wd_224 wd_225 wd_220) rfl rfl rfl hdX2_sourceHalf ⟨Nat.le_of_ble_eq_true rfl, Nat.le_of_ble_eq_true rfl⟩) (preV_std (ci := 2) (q0 := 0) hPc hK hDc hNW rfl rfl) rfl rfl hl.1 rfl (lv_room (Nat.le_of_ble_eq_true rfl)) dX2_moved_17 ⟨Nat.zero_le _, Nat.zero_le _⟩) hS (fun q _ h => hFc q h) hFc (fun r_17 u_17 t9 H1 locs ht9 hvm9 hw9 hB9 hz9 hk9 hS => ?_)
    have er_17 : r_17 = fX2_sourceHalf (2 * x0) v_sb v_srcF := hw9
    obtain ⟨hP, hD⟩ := back_std (w1 := (wX2_sourceHalf cI cB a_de a_ins a_mc a_me a_d1 a_d2 a_src v_fb v_sb v_srcF)) (w2 := (wX2_moved cI cB a_de a_ins a_mc a_me a_d1 a_d2 a_src v_fb v_sb v_op v_i v_r v_s v_a v_b v_srcF)) (wr := [(a_ins, .inr (4, [.ref a_mc, .ref a_me, .int v_op, .int v_i, .int v_r, .int v_s, .int v_a, .int v_b]))]) hP hD [0, 2] [1] [1, 0, 2] rfl rfl (by decide) (by decide) hk9 hFc hB9 ht9 (by decide) rfl
    clear hB9 hk9 hz9 hvm9 ht9 hFc hPc hDc
    generalize H1 = H at hP hS ⊢
    refine lv_iconst (v := 4) hx hb dX2_moved_20 (by decide) ?_
    refine lv_ishl hx hb dX2_moved_21 ?_
    refine lv_iload_n hx hb dX2_moved_22 rfl (lv_at hl 1 rfl) ?_
    refine lv_if_ne (tgt := 30) hx hb dX2_moved_23 (by decide) (fun c_23 => ?_) (fun c_23 => ?_)
    · skip
      refine lv_aload_n hx hb dX2_moved_30 rfl (lv_at hl 0 rfl) ?_
      refine lv_iconst (v := 2) hx hb dX2_moved_31 (by decide) ?_
      refine lv_iload_n hx hb dX2_moved_32 rfl (lv_at hl 1 rfl) ?_
      refine lv_imul hx hb dX2_moved_33 ?_
      refine lv_iconst (v := 1) hx hb dX2_moved_34 (by decide) ?_
      refine lv_isub hx hb dX2_moved_35 ?_
      have hPc : va_P D vwCl (wX2_sourceHalf cI cB a_de a_ins a_mc a_me a_d1 a_d2 a_src v_fb v_sb v_srcF) H := hP.sub [0, 2] rfl
      have hDc : va_D A (wX2_sourceHalf cI cB a_de a_ins a_mc a_me a_d1 a_d2 a_src v_fb v_sb v_srcF) := hD.sub [0, 2] (by decide) rfl
      have hFc := va_free (wc := (wX2_sourceHalf cI cB a_de a_ins a_mc a_me a_d1 a_d2 a_src v_fb v_sb v_srcF)) hD hS hA [0, 2] rfl
      refine va_calli (va_runV (As := [.int (((2 * x0) - 1))]) (rest := [.int ((r_17 <<< (4 &&& 31)))]) ⟨hx, hb, hml, hown, hts⟩ (kX2_sourceHalf l D cI cB a_de a_ins a_mc a_me a_d1 a_d2 a_src H.size v_fb v_sb v_srcF ((2 * x0) - 1)) (cwV 1 hts (gd_V wd_222 wd_223 wd_224 wd_225 wd_220) rfl rfl rfl hdX2_sourceHalf ⟨Nat.le_of_ble_eq_true rfl, Nat.le_of_ble_eq_true rfl⟩) (preV_std (ci := 2) (q0 := 0) hPc hK hDc hNW rfl rfl) rfl rfl hl.1 rfl (lv_room (Nat.le_of_ble_eq_true rfl)) dX2_moved_36 ⟨Nat.zero_le _, Nat.zero_le _⟩) hS (fun q _ h => hFc q h) hFc (fun r_36 u_36 t9 H1 locs ht9 hvm9 hw9 hB9 hz9 hk9 hS => ?_)
      have er_36 : r_36 = fX2_sourceHalf ((2 * x0) - 1) v_sb v_srcF := hw9
      obtain ⟨hP, hD⟩ := back_std (w1 := (wX2_sourceHalf cI cB a_de a_ins a_mc a_me a_d1 a_d2 a_src v_fb v_sb v_srcF)) (w2 := (wX2_moved cI cB a_de a_ins a_mc a_me a_d1 a_d2 a_src v_fb v_sb v_op v_i v_r v_s v_a v_b v_srcF)) (wr := [(a_ins, .inr (4, [.ref a_mc, .ref a_me, .int v_op, .int v_i, .int v_r, .int v_s, .int v_a, .int v_b]))]) hP hD [0, 2] [1] [1, 0, 2] rfl rfl (by decide) (by decide) hk9 hFc hB9 ht9 (by decide) rfl
      clear hB9 hk9 hz9 hvm9 ht9 hFc hPc hDc
      generalize H1 = H at hP hS ⊢
      refine lv_ior hx hb dX2_moved_39 ?_
      have hf9 : ((r_17 <<< (4 &&& 31)) ||| r_36) = fX2_moved x0 x1 v_sb v_op v_srcF := by simp only [fX2_moved, ← er_17, ← er_36]; (try simp only [if_pos c_10, if_neg c_23])
      exact W.iret hx hb hr (fun t9 ht9 hW9 => ⟨⟨((r_17 <<< (4 &&& 31)) ||| r_36), (), rfl, hf9, ⟨by rw [ht9]; exact hP, va_K.moved hW9.alike hK, hD⟩⟩, hS.F ht9⟩) hS.2.2 dX2_moved_40
    · skip
      refine lv_iload_n hx hb dX2_moved_26 rfl (lv_at hl 2 rfl) ?_
      refine lv_goto (tgt := 39) hx hb dX2_moved_27 (by decide) ?_
      refine lv_ior hx hb dX2_moved_39 ?_
      have hf9 : ((r_17 <<< (4 &&& 31)) ||| x1) = fX2_moved x0 x1 v_sb v_op v_srcF := by simp only [fX2_moved, ← er_17]; (try simp only [if_pos c_10, if_pos c_23])
      exact W.iret hx hb hr (fun t9 ht9 hW9 => ⟨⟨((r_17 <<< (4 &&& 31)) ||| x1), (), rfl, hf9, ⟨by rw [ht9]; exact hP, va_K.moved hW9.alike hK, hD⟩⟩, hS.F ht9⟩) hS.2.2 dX2_moved_40
theorem hdX2_moved : yX2_moved.cls = RX2 ∧ yX2_moved.cls ≠ "java/lang/invoke/MethodHandle" ∧ yX2_moved.cls ≠ "java/lang/invoke/VarHandle" ∧ (parseMethodDescriptor yX2_moved.desc).map (fun d => d.parameters.length) = some 2 := by decide +kernel
noncomputable def LX2_move_18 (v_b : Int32) (v_bF : (Nat → Int32)) (u_2 : (Int32 × Int32 × Int32)) : Nat → ((Nat → Int32) × Int32) → ((Nat → Int32) × Int32)
  | 0, w_18 => w_18
  | n9 + 1, w_18 =>
    if u_2.2.1 ≤ w_18.2 then ((w_18.1, w_18.2)) else (let r_54 := fX6_get (((v_b + u_2.2.1) - 1) - w_18.2) v_bF; let f_57 := upd w_18.1 ((w_18.2 &&& 15) : Int32).toNatClampNeg (r_54); let x_58 := w_18.2 + 1; LX2_move_18 v_b v_bF u_2 n9 (f_57, x_58))
noncomputable def LX2_move_93 (v_op : Int32) (u_2 : (Int32 × Int32 × Int32)) (g_18 : ((Nat → Int32) × Int32)) (x_78 : Int32) (x_90 : Int32) : Nat → ((Nat → Int32) × Int32) → ((Nat → Int32) × Int32)
  | 0, w_93 => w_93
  | n9 + 1, w_93 =>
    if u_2.1 ≤ w_93.2 then ((w_93.1, w_93.2)) else (let r_111 := fX2_moved w_93.2 x_90 u_2.2.1 v_op g_18.1; let u_114 := fX6_set (x_78 - w_93.2) r_111 w_93.1; let x_117 := w_93.2 + 1; LX2_move_93 v_op u_2 g_18 x_78 x_90 n9 (u_114, x_117))
noncomputable def fX2_move (v_fb : Int32) (v_sb : Int32) (v_op : Int32) (v_r : Int32) (v_s : Int32) (v_a : Int32) (v_b : Int32) (v_fault : Int32) (v_word : Int64) (v_bF : (Nat → Int32)) (v_kF : (Nat → Int32)) (v_srcF : (Nat → Int32)) : (Int32 × Int32 × Int32 × (Nat → Int32) × (Nat → Int32)) :=
  let u_2 := fX2_demandBoth 1 v_fb v_sb v_r v_s v_a v_b v_fault v_word v_kF
  let r_9 := fX5_fine u_2.2.2
  if r_9 = 0 then ((u_2.1, u_2.2.1, u_2.2.2, v_bF, v_srcF)) else (let g_18 := LX2_move_18 v_b v_bF u_2 (msU u_2.2.1 0 + 1) (v_srcF, 0); let x_78 := ((v_a + u_2.1) - 1); let r_84 := fX6_get x_78 v_bF; let x_90 := (r_84 &&& 15); let g_93 := LX2_move_93 v_op u_2 g_18 x_78 x_90 (msU u_2.1 0 + 1) (v_bF, 0); (u_2.1, u_2.2.1, u_2.2.2, g_93.1, g_18.1))
abbrev wX2_move (cI cB : ClassId) (a_de a_ins a_mc a_me a_ps a_by a_ks a_rg a_d1 a_d2 a_src : Nat) (v_fb : Int32) (v_sb : Int32) (v_op : Int32) (v_i : Int32) (v_r : Int32) (v_s : Int32) (v_a : Int32) (v_b : Int32) (v_fault : Int32) (v_word : Int64) (v_bF : (Nat → Int32)) (v_kF : (Nat → Int32)) (v_srcF : (Nat → Int32)) : va_W := [(a_de, .inr (2, [.ref a_mc, .ref a_ins, .ref a_me, .ref a_d1, .ref a_d2, .ref a_src, .int v_fb, .int v_sb])), (a_ins, .inr (4, [.ref a_mc, .ref a_me, .int v_op, .int v_i, .int v_r, .int v_s, .int v_a, .int v_b])), (a_mc, .inr (5, [.ref a_me, .ref a_ps, .ref a_rg, .int v_fault])), (a_me, .inr (6, [.ref a_by, .ref a_ks])), (a_ps, .inr (7, [.long v_word])), (a_by, .inl (cB, 8192, .inl v_bF)), (a_ks, .inl (cI, 4, .inl v_kF)), (a_src, .inl (cI, 16, .inl v_srcF))]
abbrev rmX2_move : Room := { frames := 3, cells := 0, slots := 0, locals := 70 }
abbrev qX2_move (D : va_G) (cI cB : ClassId) (a_de a_ins a_mc a_me a_ps a_by a_ks a_rg a_d1 a_d2 a_src : Nat) (v_fb : Int32) (v_sb : Int32) (v_op : Int32) (v_i : Int32) (v_r : Int32) (v_s : Int32) (v_a : Int32) (v_b : Int32) (v_fault : Int32) (v_word : Int64) (v_bF : (Nat → Int32)) (v_kF : (Nat → Int32)) (v_srcF : (Nat → Int32)) : (Nat → Prop) → Array Value → State → Outcome → State → Prop := fun A9 => va_Qv (fun (u9 : (Int32 × Int32 × Int32 × (Nat → Int32) × (Nat → Int32))) => u9 = fX2_move v_fb v_sb v_op v_r v_s v_a v_b v_fault v_word v_bF v_kF v_srcF) (fun u9 t9 => atW D (TYS cI cB) A9 (wX2_move cI cB a_de a_ins a_mc a_me a_ps a_by a_ks a_rg a_d1 a_d2 a_src u9.1 u9.2.1 v_op v_i v_r v_s v_a v_b u9.2.2.1 v_word u9.2.2.2.1 v_kF u9.2.2.2.2) t9) A9
set_option maxHeartbeats 4000000 in
set_option maxRecDepth 100000 in
theorem kX2_move (l : Launch) (D : va_G) (cI cB : ClassId) (a_de a_ins a_mc a_me a_ps a_by a_ks a_rg a_d1 a_d2 a_src : Nat) (sz : Nat) (v_fb : Int32) (v_sb : Int32) (v_op : Int32) (v_i : Int32) (v_r : Int32) (v_s : Int32) (v_a : Int32) (v_b : Int32) (v_fault : Int32) (v_word : Int64) (v_bF : (Nat → Int32)) (v_kF : (Nat → Int32)) (v_srcF : (Nat → Int32)) : MetW l yX2_move (WK yX2_move cX2_move 4 none) rmX2_move D (TYS cI cB) (wX2_move cI cB a_de a_ins a_mc a_me a_ps a_by a_ks a_rg a_d1 a_d2 a_src v_fb v_sb v_op v_i v_r v_s v_a v_b v_fault v_word v_bF v_kF v_srcF) sz [.ref a_de] (qX2_move D cI cB a_de a_ins a_mc a_me a_ps a_by a_ks a_rg a_d1 a_d2 a_src v_fb v_sb v_op v_i v_r v_s v_a v_b v_fault v_word v_bF v_kF v_srcF) 0 0 := by
  refine met_std (by decide) rfl (Nat.le_of_ble_eq_true rfl) ?_
  intro p e s m below meth c A ls H hx hb hr hml hown hts hlocks hA hP hK hD hS hNW hl
  have hl : lv_has ls 4 [(0, .ref a_de)] := hl
  have q_0 := hts _ (List.mem_cons_of_mem _ wd_188)
  have q_1 := hts _ (List.mem_cons_of_mem _ wd_218)
  have q_2 := hts _ (List.mem_cons_of_mem _ wd_195)
  have q_3 := hts _ (List.mem_cons_of_mem _ wd_190)
  have q_4 := hts _ (List.mem_cons_of_mem _ wd_189)
  have q_5 := hts _ (List.mem_cons_of_mem _ wd_217)
  have n_0 := hNW.f (A := ([.ref a_de] : List Value).toArray) ("MainframeCore$Decimals", 101, "MainframeCore$Instruction", "b", "I", "MainframeCore") (by decide +kernel)
  have n_1 := hNW.f (A := ([.ref a_de] : List Value).toArray) ("MainframeCore$Decimals", 40, "MainframeCore$Instruction", "a", "I", "MainframeCore") (by decide +kernel)
  refine lv_aload_n hx hb dX2_move_0 rfl (lv_at hl 0 rfl) ?_
  refine lv_iconst (v := 1) hx hb dX2_move_1 (by decide) ?_
  have hPc : va_P D vwCl (wX2_demandBoth cI cB a_de a_ins a_mc a_me a_ps a_by a_ks a_rg a_d1 a_d2 a_src v_fb v_sb v_op v_i v_r v_s v_a v_b v_fault v_word v_kF) H := hP.sub [0, 1, 2, 3, 4, 6] rfl
  have hDc : va_D A (wX2_demandBoth cI cB a_de a_ins a_mc a_me a_ps a_by a_ks a_rg a_d1 a_d2 a_src v_fb v_sb v_op v_i v_r v_s v_a v_b v_fault v_word v_kF) := hD.sub [0, 1, 2, 3, 4, 6] (by decide) rfl
  have hFc := va_free (wc := (wX2_demandBoth cI cB a_de a_ins a_mc a_me a_ps a_by a_ks a_rg a_d1 a_d2 a_src v_fb v_sb v_op v_i v_r v_s v_a v_b v_fault v_word v_kF)) hD hS hA [0, 1, 2, 3, 4, 6] rfl
  refine va_callv (va_runV (As := [.int 1]) (rest := []) ⟨hx, hb, hml, hown, hts⟩ (kX2_demandBoth l D cI cB a_de a_ins a_mc a_me a_ps a_by a_ks a_rg a_d1 a_d2 a_src H.size v_fb v_sb v_op v_i v_r v_s v_a v_b v_fault v_word v_kF 1) (cwV 1 hts (gd_V wd_226 wd_227 wd_228 wd_225 wd_219) rfl rfl rfl hdX2_demandBoth ⟨Nat.le_of_ble_eq_true rfl, Nat.le_of_ble_eq_true rfl⟩) (preV_std (ci := 2) (q0 := 0) hPc hK hDc hNW rfl rfl) rfl rfl hl.1 rfl (lv_room (Nat.le_of_ble_eq_true rfl)) dX2_move_2 ⟨Nat.zero_le _, Nat.zero_le _⟩) hS (fun q _ h => hFc q h) hFc (fun u_2 t9 H1 locs ht9 hvm9 hw9 hB9 hz9 hk9 hS => ?_)
  have eu_2 : u_2 = fX2_demandBoth 1 v_fb v_sb v_r v_s v_a v_b v_fault v_word v_kF := hw9
  obtain ⟨hP, hD⟩ := back_std (w1 := (wX2_demandBoth cI cB a_de a_ins a_mc a_me a_ps a_by a_ks a_rg a_d1 a_d2 a_src u_2.1 u_2.2.1 v_op v_i v_r v_s v_a v_b u_2.2.2 v_word v_kF)) (w2 := (wX2_move cI cB a_de a_ins a_mc a_me a_ps a_by a_ks a_rg a_d1 a_d2 a_src u_2.1 u_2.2.1 v_op v_i v_r v_s v_a v_b u_2.2.2 v_word v_bF v_kF v_srcF)) (wr := [(a_by, .inl (cB, 8192, .inl v_bF)), (a_src, .inl (cI, 16, .inl v_srcF))]) hP hD [0, 1, 2, 3, 4, 6] [5, 7] [2, 3, 4, 5, 6, 0, 7, 1] rfl rfl (by decide) (by decide) hk9 hFc hB9 ht9 (by decide) rfl
  clear hB9 hk9 hz9 hvm9 ht9 hFc hPc hDc
  generalize H1 = H at hP hS ⊢
  refine lv_aload_n hx hb dX2_move_5 rfl (lv_at hl 0 rfl) ?_
  refine va_get (D := D) (ci := 2) (v := .ref a_mc) (C := RX2) (T := TX2) (N := 8) hx hb hts in_X2 hown hK hP 0 rfl rfl 0 (by decide) q_0 (fun _ h9 => h9) rfl dX2_move_6 ?_
  have hPc : va_P D vwCl (wX5_fine cI cB a_mc a_me a_ps a_rg u_2.2.2) H := hP.sub [2] rfl
  have hDc : va_D A (wX5_fine cI cB a_mc a_me a_ps a_rg u_2.2.2) := hD.sub [2] (by decide) rfl
  have hFc := va_free (wc := (wX5_fine cI cB a_mc a_me a_ps a_rg u_2.2.2)) hD hS hA [2] rfl
  refine va_calli (va_runV (As := []) (rest := []) ⟨hx, hb, hml, hown, hts⟩ (kX5_fine l D cI cB a_mc a_me a_ps a_rg H.size u_2.2.2 ) (cwV 0 hts (gd_V wd_199 wd_73 wd_74 wd_24 wd_66) rfl rfl rfl hdX5_fine ⟨Nat.le_of_ble_eq_true rfl, Nat.le_of_ble_eq_true rfl⟩) (preV_std (ci := 5) (q0 := 0) hPc hK hDc hNW rfl rfl) rfl rfl hl.1 rfl (lv_room (Nat.le_of_ble_eq_true rfl)) dX2_move_9 ⟨Nat.zero_le _, Nat.zero_le _⟩) hS (fun q _ h => hFc q h) hFc (fun r_9 u_9 t9 H1 locs ht9 hvm9 hw9 hB9 hz9 hk9 hS => ?_)
  have er_9 : r_9 = fX5_fine u_2.2.2 := hw9
  have zr_9 : r_9 = 0 ∨ r_9 = 1 := by rw [er_9]; exact zX5_fine _
  obtain ⟨hP, hD⟩ := back_std (w1 := (wX5_fine cI cB a_mc a_me a_ps a_rg u_2.2.2)) (w2 := (wX2_move cI cB a_de a_ins a_mc a_me a_ps a_by a_ks a_rg a_d1 a_d2 a_src u_2.1 u_2.2.1 v_op v_i v_r v_s v_a v_b u_2.2.2 v_word v_bF v_kF v_srcF)) (wr := [(a_de, .inr (2, [.ref a_mc, .ref a_ins, .ref a_me, .ref a_d1, .ref a_d2, .ref a_src, .int u_2.1, .int u_2.2.1])), (a_ins, .inr (4, [.ref a_mc, .ref a_me, .int v_op, .int v_i, .int v_r, .int v_s, .int v_a, .int v_b])), (a_me, .inr (6, [.ref a_by, .ref a_ks])), (a_ps, .inr (7, [.long v_word])), (a_by, .inl (cB, 8192, .inl v_bF)), (a_ks, .inl (cI, 4, .inl v_kF)), (a_src, .inl (cI, 16, .inl v_srcF))]) hP hD [2] [0, 1, 3, 4, 5, 6, 7] [0, 1, 7, 2, 3, 4, 5, 6] rfl rfl (by decide) (by decide) hk9 hFc hB9 ht9 (by decide) rfl
  clear hB9 hk9 hz9 hvm9 ht9 hFc hPc hDc
  generalize H1 = H at hP hS ⊢
  refine lv_if_ne (tgt := 16) hx hb dX2_move_12 (by decide) (fun c_12 => ?_) (fun c_12 => ?_)
  · skip
    refine lv_iconst (v := 0) hx hb dX2_move_16 (by decide) ?_
    refine lv_istore_n (lv' := [(1, .int 0), (0, .ref a_de)]) hx hb dX2_move_17 rfl hl (by decide) rfl (fun ls hl => ?_)
    obtain ⟨g_18, eg_18⟩ : ∃ z : ((Nat → Int32) × Int32), z = LX2_move_18 v_b v_bF u_2 (msU u_2.2.1 0 + 1) (v_srcF, 0) := ⟨_, rfl⟩
    have K_18_0 : ∀ (H : Heap) (locs : List Loc), va_P D vwCl (wX2_move cI cB a_de a_ins a_mc a_me a_ps a_by a_ks a_rg a_d1 a_d2 a_src u_2.1 u_2.2.1 v_op v_i v_r v_s v_a v_b u_2.2.2 v_word v_bF v_kF g_18.1) H → va_D A (wX2_move cI cB a_de a_ins a_mc a_me a_ps a_by a_ks a_rg a_d1 a_d2 a_src u_2.1 u_2.2.1 v_op v_i v_r v_s v_a v_b u_2.2.2 v_word v_bF v_kF g_18.1) → va_S A s.heap H locs → ∀ (ls : Array Slot), lv_has ls 4 [(0, .ref a_de), (1, .int g_18.2)] → W p l e rmX2_move s m ([.ref a_de] : List Value).toArray below meth c H locs 0 0 (MQ below (qX2_move D cI cB a_de a_ins a_mc a_me a_ps a_by a_ks a_rg a_d1 a_d2 a_src v_fb v_sb v_op v_i v_r v_s v_a v_b v_fault v_word v_bF v_kF v_srcF A) ([.ref a_de] : List Value).toArray s 0 0 A) (F0 m 64 ls []) := by
      intro H locs hP hD hS ls hl
      refine lv_aload_n hx hb dX2_move_64 rfl (lv_at hl 0 rfl) ?_
      refine va_get (D := D) (ci := 2) (v := .ref a_ins) (C := RX2) (T := TX2) (N := 8) hx hb hts in_X2 hown hK hP 0 rfl rfl 1 (by decide) q_4 (fun _ h9 => h9) rfl dX2_move_65 ?_
      refine va_getN (D := D) (ci := 4) (v := .int v_a) (C := RX4) (T := TX4) (N := 8) hx hb hts in_X4 hown hK hP 1 rfl rfl 6 (by decide) n_1 (fun _ h9 => h9) rfl dX2_move_68 ?_
      refine lv_aload_n hx hb dX2_move_71 rfl (lv_at hl 0 rfl) ?_
      refine va_get (D := D) (ci := 2) (v := .int u_2.1) (C := RX2) (T := TX2) (N := 8) hx hb hts in_X2 hown hK hP 0 rfl rfl 6 (by decide) q_5 (fun _ h9 => h9) rfl dX2_move_72 ?_
      refine lv_iadd hx hb dX2_move_75 ?_
      refine lv_iconst (v := 1) hx hb dX2_move_76 (by decide) ?_
      refine lv_isub hx hb dX2_move_77 ?_
      refine lv_topi (fun x_78 ex_78 => ?_)
      refine lv_istore_n (lv' := [(1, .int x_78), (0, .ref a_de)]) hx hb dX2_move_78 rfl hl (by decide) rfl (fun ls hl => ?_)
      refine lv_aload_n hx hb dX2_move_79 rfl (lv_at hl 1 rfl) ?_
      refine va_get (D := D) (ci := 2) (v := .ref a_me) (C := RX2) (T := TX2) (N := 8) hx hb hts in_X2 hown hK hP 0 rfl rfl 2 (by decide) q_3 (fun _ h9 => h9) rfl dX2_move_80 ?_
      refine lv_iload_n hx hb dX2_move_83 rfl (lv_at hl 0 rfl) ?_
      have hPc : va_P D vwCl (wX6_get cI cB a_me a_by a_ks v_bF) H := hP.sub [3, 5] rfl
      have hDc : va_D A (wX6_get cI cB a_me a_by a_ks v_bF) := hD.sub [3, 5] (by decide) rfl
      have hFc := va_free (wc := (wX6_get cI cB a_me a_by a_ks v_bF)) hD hS hA [3, 5] rfl
      refine va_calli (va_runV (As := [.int x_78]) (rest := []) ⟨hx, hb, hml, hown, hts⟩ (kX6_get l D cI cB a_me a_by a_ks H.size v_bF x_78) (cwV 1 hts (gd_V wd_229 wd_109 wd_110 wd_78 wd_102) rfl rfl rfl hdX6_get ⟨Nat.le_of_ble_eq_true rfl, Nat.le_of_ble_eq_true rfl⟩) (preV_std (ci := 6) (q0 := 0) hPc hK hDc hNW rfl rfl) rfl rfl hl.1 rfl (lv_room (Nat.le_of_ble_eq_true rfl)) dX2_move_84 ⟨Nat.zero_le _, Nat.zero_le _⟩) hS (fun q _ h => hFc q h) hFc (fun r_84 u_84 t9 H1 locs ht9 hvm9 hw9 hB9 hz9 hk9 hS => ?_)
      have er_84 : r_84 = fX6_get x_78 v_bF := hw9
      obtain ⟨hP, hD⟩ := back_std (w1 := (wX6_get cI cB a_me a_by a_ks v_bF)) (w2 := (wX2_move cI cB a_de a_ins a_mc a_me a_ps a_by a_ks a_rg a_d1 a_d2 a_src u_2.1 u_2.2.1 v_op v_i v_r v_s v_a v_b u_2.2.2 v_word v_bF v_kF g_18.1)) (wr := [(a_de, .inr (2, [.ref a_mc, .ref a_ins, .ref a_me, .ref a_d1, .ref a_d2, .ref a_src, .int u_2.1, .int u_2.2.1])), (a_ins, .inr (4, [.ref a_mc, .ref a_me, .int v_op, .int v_i, .int v_r, .int v_s, .int v_a, .int v_b])), (a_mc, .inr (5, [.ref a_me, .ref a_ps, .ref a_rg, .int u_2.2.2])), (a_ps, .inr (7, [.long v_word])), (a_ks, .inl (cI, 4, .inl v_kF)), (a_src, .inl (cI, 16, .inl g_18.1))]) hP hD [3, 5] [0, 1, 2, 4, 6, 7] [0, 1, 2, 6, 3, 7, 4, 5] rfl rfl (by decide) (by decide) hk9 hFc hB9 ht9 (by decide) rfl
      clear hB9 hk9 hz9 hvm9 ht9 hFc hPc hDc
      generalize H1 = H at hP hS ⊢
      refine lv_bipush (v := 15) hx hb dX2_move_87 (by decide) ?_
      refine lv_iand hx hb dX2_move_89 ?_
      refine lv_topi (fun x_90 ex_90 => ?_)
      refine lv_istore_n (lv' := [(2, .int x_90), (1, .int x_78), (0, .ref a_de)]) hx hb dX2_move_90 rfl hl (by decide) rfl (fun ls hl => ?_)
      refine lv_iconst (v := 0) hx hb dX2_move_91 (by decide) ?_
      refine lv_istore_n (lv' := [(3, .int 0), (2, .int x_90), (1, .int x_78), (0, .ref a_de)]) hx hb dX2_move_92 rfl hl (by decide) rfl (fun ls hl => ?_)
      obtain ⟨g_93, eg_93⟩ : ∃ z : ((Nat → Int32) × Int32), z = LX2_move_93 v_op u_2 g_18 x_78 x_90 (msU u_2.1 0 + 1) (v_bF, 0) := ⟨_, rfl⟩
      have K_93_0 : ∀ (H : Heap) (locs : List Loc), va_P D vwCl (wX2_move cI cB a_de a_ins a_mc a_me a_ps a_by a_ks a_rg a_d1 a_d2 a_src u_2.1 u_2.2.1 v_op v_i v_r v_s v_a v_b u_2.2.2 v_word g_93.1 v_kF g_18.1) H → va_D A (wX2_move cI cB a_de a_ins a_mc a_me a_ps a_by a_ks a_rg a_d1 a_d2 a_src u_2.1 u_2.2.1 v_op v_i v_r v_s v_a v_b u_2.2.2 v_word g_93.1 v_kF g_18.1) → va_S A s.heap H locs → ∀ (ls : Array Slot), lv_has ls 4 [(0, .ref a_de), (1, .int x_78), (2, .int x_90), (3, .int g_93.2)] → W p l e rmX2_move s m ([.ref a_de] : List Value).toArray below meth c H locs 0 0 (MQ below (qX2_move D cI cB a_de a_ins a_mc a_me a_ps a_by a_ks a_rg a_d1 a_d2 a_src v_fb v_sb v_op v_i v_r v_s v_a v_b v_fault v_word v_bF v_kF v_srcF A) ([.ref a_de] : List Value).toArray s 0 0 A) (F0 m 123 ls []) := by
        intro H locs hP hD hS ls hl
        have hf9 : (u_2.1, u_2.2.1, u_2.2.2, g_93.1, g_18.1) = fX2_move v_fb v_sb v_op v_r v_s v_a v_b v_fault v_word v_bF v_kF v_srcF := by subst ex_90; subst ex_78; simp only [fX2_move, ← eu_2, ← er_9, ← eg_18, ← er_84, ← eg_93]; (try simp only [if_neg c_12])
        exact W.vret hx hb hr (fun t9 ht9 hW9 => ⟨⟨(u_2.1, u_2.2.1, u_2.2.2, g_93.1, g_18.1), rfl, hf9, ⟨by rw [ht9]; exact hP, va_K.moved hW9.alike hK, hD⟩⟩, hS.F ht9⟩) hS.2.2 dX2_move_123
      have lp_93 : ∀ (n9 : Nat) (w_93 : ((Nat → Int32) × Int32)), msU u_2.1 w_93.2 < n9 → LX2_move_93 v_op u_2 g_18 x_78 x_90 n9 w_93 = g_93 → ∀ (H : Heap) (locs : List Loc), va_P D vwCl (wX2_move cI cB a_de a_ins a_mc a_me a_ps a_by a_ks a_rg a_d1 a_d2 a_src u_2.1 u_2.2.1 v_op v_i v_r v_s v_a v_b u_2.2.2 v_word w_93.1 v_kF g_18.1) H → va_D A (wX2_move cI cB a_de a_ins a_mc a_me a_ps a_by a_ks a_rg a_d1 a_d2 a_src u_2.1 u_2.2.1 v_op v_i v_r v_s v_a v_b u_2.2.2 v_word w_93.1 v_kF g_18.1) → va_S A s.heap H locs → ∀ (ls : Array Slot), lv_has ls 4 [(0, .ref a_de), (1, .int x_78), (2, .int x_90), (3, .int w_93.2)] → W p l e rmX2_move s m ([.ref a_de] : List Value).toArray below meth c H locs 0 0 (MQ below (qX2_move D cI cB a_de a_ins a_mc a_me a_ps a_by a_ks a_rg a_d1 a_d2 a_src v_fb v_sb v_op v_i v_r v_s v_a v_b v_fault v_word v_bF v_kF v_srcF A) ([.ref a_de] : List Value).toArray s 0 0 A) (F0 m 93 ls []) := by
        intro n9
        induction n9 with
        | zero => intro w_93 hm9; exact absurd hm9 (Nat.not_lt_zero _)
        | succ n9 ih =>
          intro w_93 hm9 hL9 H locs hP hD hS ls hl
          refine lv_iload_n hx hb dX2_move_93 rfl (lv_at hl 3 rfl) ?_
          refine lv_aload_n hx hb dX2_move_94 rfl (lv_at hl 0 rfl) ?_
          refine va_get (D := D) (ci := 2) (v := .int u_2.1) (C := RX2) (T := TX2) (N := 8) hx hb hts in_X2 hown hK hP 0 rfl rfl 6 (by decide) q_5 (fun _ h9 => h9) rfl dX2_move_95 ?_
          refine lv_icmp_ge (tgt := 123) hx hb dX2_move_98 (by decide) (fun c_98 => ?_) (fun c_98 => ?_)
          · skip
            have hg9 : (w_93.1, w_93.2) = g_93 := by rw [← hL9]; simp only [LX2_move_93]; (try simp only [if_pos c_98])
            subst hg9
            exact K_93_0 _ _ hP hD hS ls (lv_sub hl [0, 1, 2, 3] rfl)
          · skip
            refine lv_aload_n hx hb dX2_move_101 rfl (lv_at hl 0 rfl) ?_
            refine va_get (D := D) (ci := 2) (v := .ref a_me) (C := RX2) (T := TX2) (N := 8) hx hb hts in_X2 hown hK hP 0 rfl rfl 2 (by decide) q_3 (fun _ h9 => h9) rfl dX2_move_102 ?_
            refine lv_iload_n hx hb dX2_move_105 rfl (lv_at hl 1 rfl) ?_
            refine lv_iload_n hx hb dX2_move_106 rfl (lv_at hl 3 rfl) ?_
            refine lv_isub hx hb dX2_move_107 ?_
            refine lv_aload_n hx hb dX2_move_108 rfl (lv_at hl 0 rfl) ?_
            refine lv_iload_n hx hb dX2_move_109 rfl (lv_at hl 3 rfl) ?_
            refine lv_iload_n hx hb dX2_move_110 rfl (lv_at hl 2 rfl) ?_
            have hPc : va_P D vwCl (wX2_moved cI cB a_de a_ins a_mc a_me a_d1 a_d2 a_src u_2.1 u_2.2.1 v_op v_i v_r v_s v_a v_b g_18.1) H := hP.sub [0, 1, 7] rfl
            have hDc : va_D A (wX2_moved cI cB a_de a_ins a_mc a_me a_d1 a_d2 a_src u_2.1 u_2.2.1 v_op v_i v_r v_s v_a v_b g_18.1) := hD.sub [0, 1, 7] (by decide) rfl
            have hFc := va_free (wc := (wX2_moved cI cB a_de a_ins a_mc a_me a_d1 a_d2 a_src u_2.1 u_2.2.1 v_op v_i v_r v_s v_a v_b g_18.1)) hD hS hA [0, 1, 7] rfl
            refine va_calli (va_runV (As := [.int w_93.2, .int x_90]) (rest := [.int (x_78 - w_93.2), .ref a_me]) ⟨hx, hb, hml, hown, hts⟩ (kX2_moved l D cI cB a_de a_ins a_mc a_me a_d1 a_d2 a_src H.size u_2.1 u_2.2.1 v_op v_i v_r v_s v_a v_b g_18.1 w_93.2 x_90) (cwV 2 hts (gd_V wd_230 wd_231 wd_232 wd_225 wd_221) rfl rfl rfl hdX2_moved ⟨Nat.le_of_ble_eq_true rfl, Nat.le_of_ble_eq_true rfl⟩) (preV_std (ci := 2) (q0 := 0) hPc hK hDc hNW rfl rfl) rfl rfl hl.1 rfl (lv_room (Nat.le_of_ble_eq_true rfl)) dX2_move_111 ⟨Nat.zero_le _, Nat.zero_le _⟩) hS (fun q _ h => hFc q h) hFc (fun r_111 u_111 t9 H1 locs ht9 hvm9 hw9 hB9 hz9 hk9 hS => ?_)
            have er_111 : r_111 = fX2_moved w_93.2 x_90 u_2.2.1 v_op g_18.1 := hw9
            obtain ⟨hP, hD⟩ := back_std (w1 := (wX2_moved cI cB a_de a_ins a_mc a_me a_d1 a_d2 a_src u_2.1 u_2.2.1 v_op v_i v_r v_s v_a v_b g_18.1)) (w2 := (wX2_move cI cB a_de a_ins a_mc a_me a_ps a_by a_ks a_rg a_d1 a_d2 a_src u_2.1 u_2.2.1 v_op v_i v_r v_s v_a v_b u_2.2.2 v_word w_93.1 v_kF g_18.1)) (wr := [(a_mc, .inr (5, [.ref a_me, .ref a_ps, .ref a_rg, .int u_2.2.2])), (a_me, .inr (6, [.ref a_by, .ref a_ks])), (a_ps, .inr (7, [.long v_word])), (a_by, .inl (cB, 8192, .inl w_93.1)), (a_ks, .inl (cI, 4, .inl v_kF))]) hP hD [0, 1, 7] [2, 3, 4, 5, 6] [5, 6, 0, 1, 2, 3, 4, 7] rfl rfl (by decide) (by decide) hk9 hFc hB9 ht9 (by decide) rfl
            clear hB9 hk9 hz9 hvm9 ht9 hFc hPc hDc
            generalize H1 = H at hP hS ⊢
            have hPc : va_P D vwCl (wX6_set cI cB a_me a_by a_ks w_93.1) H := hP.sub [3, 5] rfl
            have hDc : va_D A (wX6_set cI cB a_me a_by a_ks w_93.1) := hD.sub [3, 5] (by decide) rfl
            have hFc := va_free (wc := (wX6_set cI cB a_me a_by a_ks w_93.1)) hD hS hA [3, 5] rfl
            refine va_callv (va_runV (As := [.int (x_78 - w_93.2), .int r_111]) (rest := []) ⟨hx, hb, hml, hown, hts⟩ (kX6_set l D cI cB a_me a_by a_ks H.size w_93.1 (x_78 - w_93.2) r_111) (cwV 2 hts (gd_V wd_233 wd_151 wd_152 wd_78 wd_145) rfl rfl rfl hdX6_set ⟨Nat.le_of_ble_eq_true rfl, Nat.le_of_ble_eq_true rfl⟩) (preV_std (ci := 6) (q0 := 0) hPc hK hDc hNW rfl rfl) rfl rfl hl.1 rfl (lv_room (Nat.le_of_ble_eq_true rfl)) dX2_move_114 ⟨Nat.zero_le _, Nat.zero_le _⟩) hS (fun q _ h => hFc q h) hFc (fun u_114 t9 H1 locs ht9 hvm9 hw9 hB9 hz9 hk9 hS => ?_)
            have eu_114 : u_114 = fX6_set (x_78 - w_93.2) r_111 w_93.1 := hw9
            obtain ⟨hP, hD⟩ := back_std (w1 := (wX6_set cI cB a_me a_by a_ks u_114)) (w2 := (wX2_move cI cB a_de a_ins a_mc a_me a_ps a_by a_ks a_rg a_d1 a_d2 a_src u_2.1 u_2.2.1 v_op v_i v_r v_s v_a v_b u_2.2.2 v_word u_114 v_kF g_18.1)) (wr := [(a_de, .inr (2, [.ref a_mc, .ref a_ins, .ref a_me, .ref a_d1, .ref a_d2, .ref a_src, .int u_2.1, .int u_2.2.1])), (a_ins, .inr (4, [.ref a_mc, .ref a_me, .int v_op, .int v_i, .int v_r, .int v_s, .int v_a, .int v_b])), (a_mc, .inr (5, [.ref a_me, .ref a_ps, .ref a_rg, .int u_2.2.2])), (a_ps, .inr (7, [.long v_word])), (a_ks, .inl (cI, 4, .inl v_kF)), (a_src, .inl (cI, 16, .inl g_18.1))]) hP hD [3, 5] [0, 1, 2, 4, 6, 7] [0, 1, 2, 6, 3, 7, 4, 5] rfl rfl (by decide) (by decide) hk9 hFc hB9 ht9 (by decide) rfl
            clear hB9 hk9 hz9 hvm9 ht9 hFc hPc hDc
            generalize H1 = H at hP hS ⊢
            obtain ⟨x_117, ex_117⟩ : ∃ z : Int32, z = w_93.2 + 1 := ⟨_, rfl⟩
            refine lv_iinc (v := x_117) (lv' := [(3, .int x_117), (0, .ref a_de), (1, .int x_78), (2, .int x_90)]) hx hb dX2_move_117 hl (k := 3) rfl (by rw [ex_117]; rfl) (by decide) rfl (fun ls hl => ?_)
            refine lv_goto (tgt := 93) hx hb dX2_move_120 (by decide) ?_
            exact ih (u_114, x_117) (by subst ex_117; subst eu_114; subst er_111;  exact Nat.lt_of_lt_of_le (ms_up c_98) (Nat.le_of_lt_succ hm9)) (by rw [← hL9]; subst ex_117; simp only [LX2_move_93, ← er_111, ← eu_114]; (try simp only [if_neg c_98])) _ _ hP hD hS ls (lv_sub hl [1, 2, 3, 0] rfl)
      exact lp_93 (msU u_2.1 0 + 1) (v_bF, 0) (Nat.lt_succ_self _) eg_93.symm _ _ hP hD hS ls (lv_sub hl [3, 2, 1, 0] rfl)
    have lp_18 : ∀ (n9 : Nat) (w_18 : ((Nat → Int32) × Int32)), msU u_2.2.1 w_18.2 < n9 → LX2_move_18 v_b v_bF u_2 n9 w_18 = g_18 → ∀ (H : Heap) (locs : List Loc), va_P D vwCl (wX2_move cI cB a_de a_ins a_mc a_me a_ps a_by a_ks a_rg a_d1 a_d2 a_src u_2.1 u_2.2.1 v_op v_i v_r v_s v_a v_b u_2.2.2 v_word v_bF v_kF w_18.1) H → va_D A (wX2_move cI cB a_de a_ins a_mc a_me a_ps a_by a_ks a_rg a_d1 a_d2 a_src u_2.1 u_2.2.1 v_op v_i v_r v_s v_a v_b u_2.2.2 v_word v_bF v_kF w_18.1) → va_S A s.heap H locs → ∀ (ls : Array Slot), lv_has ls 4 [(0, .ref a_de), (1, .int w_18.2)] → W p l e rmX2_move s m ([.ref a_de] : List Value).toArray below meth c H locs 0 0 (MQ below (qX2_move D cI cB a_de a_ins a_mc a_me a_ps a_by a_ks a_rg a_d1 a_d2 a_src v_fb v_sb v_op v_i v_r v_s v_a v_b v_fault v_word v_bF v_kF v_srcF A) ([.ref a_de] : List Value).toArray s 0 0 A) (F0 m 18 ls []) := by
      intro n9
      induction n9 with
      | zero => intro w_18 hm9; exact absurd hm9 (Nat.not_lt_zero _)
      | succ n9 ih =>
        intro w_18 hm9 hL9 H locs hP hD hS ls hl
        refine lv_iload_n hx hb dX2_move_18 rfl (lv_at hl 1 rfl) ?_
        refine lv_aload_n hx hb dX2_move_19 rfl (lv_at hl 0 rfl) ?_
        refine va_get (D := D) (ci := 2) (v := .int u_2.2.1) (C := RX2) (T := TX2) (N := 8) hx hb hts in_X2 hown hK hP 0 rfl rfl 7 (by decide) q_1 (fun _ h9 => h9) rfl dX2_move_20 ?_
        refine lv_icmp_ge (tgt := 64) hx hb dX2_move_23 (by decide) (fun c_23 => ?_) (fun c_23 => ?_)
        · skip
          have hg9 : (w_18.1, w_18.2) = g_18 := by rw [← hL9]; simp only [LX2_move_18]; (try simp only [if_pos c_23])
          subst hg9
          exact K_18_0 _ _ hP hD hS ls (lv_sub hl [0, 1] rfl)
        · skip
          refine lv_aload_n hx hb dX2_move_26 rfl (lv_at hl 0 rfl) ?_
          refine va_get (D := D) (ci := 2) (v := .ref a_src) (C := RX2) (T := TX2) (N := 8) hx hb hts in_X2 hown hK hP 0 rfl rfl 5 (by decide) q_2 (fun _ h9 => h9) rfl dX2_move_27 ?_
          refine lv_iload_n hx hb dX2_move_30 rfl (lv_at hl 1 rfl) ?_
          refine lv_bipush (v := 15) hx hb dX2_move_31 (by decide) ?_
          refine lv_iand hx hb dX2_move_33 ?_
          refine lv_aload_n hx hb dX2_move_34 rfl (lv_at hl 0 rfl) ?_
          refine va_get (D := D) (ci := 2) (v := .ref a_me) (C := RX2) (T := TX2) (N := 8) hx hb hts in_X2 hown hK hP 0 rfl rfl 2 (by decide) q_3 (fun _ h9 => h9) rfl dX2_move_35 ?_
          refine lv_aload_n hx hb dX2_move_38 rfl (lv_at hl 0 rfl) ?_
          refine va_get (D := D) (ci := 2) (v := .ref a_ins) (C := RX2) (T := TX2) (N := 8) hx hb hts in_X2 hown hK hP 0 rfl rfl 1 (by decide) q_4 (fun _ h9 => h9) rfl dX2_move_39 ?_
          refine va_getN (D := D) (ci := 4) (v := .int v_b) (C := RX4) (T := TX4) (N := 8) hx hb hts in_X4 hown hK hP 1 rfl rfl 7 (by decide) n_0 (fun _ h9 => h9) rfl dX2_move_42 ?_
          refine lv_aload_n hx hb dX2_move_45 rfl (lv_at hl 0 rfl) ?_
          refine va_get (D := D) (ci := 2) (v := .int u_2.2.1) (C := RX2) (T := TX2) (N := 8) hx hb hts in_X2 hown hK hP 0 rfl rfl 7 (by decide) q_1 (fun _ h9 => h9) rfl dX2_move_46 ?_
          refine lv_iadd hx hb dX2_move_49 ?_
          refine lv_iconst (v := 1) hx hb dX2_move_50 (by decide) ?_
          refine lv_isub hx hb dX2_move_51 ?_
          refine lv_iload_n hx hb dX2_move_52 rfl (lv_at hl 1 rfl) ?_
          refine lv_isub hx hb dX2_move_53 ?_
          have hPc : va_P D vwCl (wX6_get cI cB a_me a_by a_ks v_bF) H := hP.sub [3, 5] rfl
          have hDc : va_D A (wX6_get cI cB a_me a_by a_ks v_bF) := hD.sub [3, 5] (by decide) rfl
          have hFc := va_free (wc := (wX6_get cI cB a_me a_by a_ks v_bF)) hD hS hA [3, 5] rfl
          refine va_calli (va_runV (As := [.int ((((v_b + u_2.2.1) - 1) - w_18.2))]) (rest := [.int (w_18.2 &&& 15), .ref a_src]) ⟨hx, hb, hml, hown, hts⟩ (kX6_get l D cI cB a_me a_by a_ks H.size v_bF (((v_b + u_2.2.1) - 1) - w_18.2)) (cwV 1 hts (gd_V wd_229 wd_109 wd_110 wd_78 wd_102) rfl rfl rfl hdX6_get ⟨Nat.le_of_ble_eq_true rfl, Nat.le_of_ble_eq_true rfl⟩) (preV_std (ci := 6) (q0 := 0) hPc hK hDc hNW rfl rfl) rfl rfl hl.1 rfl (lv_room (Nat.le_of_ble_eq_true rfl)) dX2_move_54 ⟨Nat.zero_le _, Nat.zero_le _⟩) hS (fun q _ h => hFc q h) hFc (fun r_54 u_54 t9 H1 locs ht9 hvm9 hw9 hB9 hz9 hk9 hS => ?_)
          have er_54 : r_54 = fX6_get (((v_b + u_2.2.1) - 1) - w_18.2) v_bF := hw9
          obtain ⟨hP, hD⟩ := back_std (w1 := (wX6_get cI cB a_me a_by a_ks v_bF)) (w2 := (wX2_move cI cB a_de a_ins a_mc a_me a_ps a_by a_ks a_rg a_d1 a_d2 a_src u_2.1 u_2.2.1 v_op v_i v_r v_s v_a v_b u_2.2.2 v_word v_bF v_kF w_18.1)) (wr := [(a_de, .inr (2, [.ref a_mc, .ref a_ins, .ref a_me, .ref a_d1, .ref a_d2, .ref a_src, .int u_2.1, .int u_2.2.1])), (a_ins, .inr (4, [.ref a_mc, .ref a_me, .int v_op, .int v_i, .int v_r, .int v_s, .int v_a, .int v_b])), (a_mc, .inr (5, [.ref a_me, .ref a_ps, .ref a_rg, .int u_2.2.2])), (a_ps, .inr (7, [.long v_word])), (a_ks, .inl (cI, 4, .inl v_kF)), (a_src, .inl (cI, 16, .inl w_18.1))]) hP hD [3, 5] [0, 1, 2, 4, 6, 7] [0, 1, 2, 6, 3, 7, 4, 5] rfl rfl (by decide) (by decide) hk9 hFc hB9 ht9 (by decide) rfl
          clear hB9 hk9 hz9 hvm9 ht9 hFc hPc hDc
          generalize H1 = H at hP hS ⊢
          refine va_iast hx hb hK hP hD hS 7 0 rfl rfl (pk_andIn _ 4 (by decide) (by decide)) dX2_move_57 (fun H locs hP hD hS => ?_)
          obtain ⟨f_57, ef_57⟩ : ∃ z : Nat → Int32, z = upd w_18.1 ((w_18.2 &&& 15) : Int32).toNatClampNeg (r_54) := ⟨_, rfl⟩
          have hP : va_P D vwCl (wX2_move cI cB a_de a_ins a_mc a_me a_ps a_by a_ks a_rg a_d1 a_d2 a_src u_2.1 u_2.2.1 v_op v_i v_r v_s v_a v_b u_2.2.2 v_word v_bF v_kF (upd w_18.1 ((w_18.2 &&& 15) : Int32).toNatClampNeg (r_54))) H := hP
          have hD : va_D A (wX2_move cI cB a_de a_ins a_mc a_me a_ps a_by a_ks a_rg a_d1 a_d2 a_src u_2.1 u_2.2.1 v_op v_i v_r v_s v_a v_b u_2.2.2 v_word v_bF v_kF (upd w_18.1 ((w_18.2 &&& 15) : Int32).toNatClampNeg (r_54))) := hD
          rw [← ef_57] at hP hD
          obtain ⟨x_58, ex_58⟩ : ∃ z : Int32, z = w_18.2 + 1 := ⟨_, rfl⟩
          refine lv_iinc (v := x_58) (lv' := [(1, .int x_58), (0, .ref a_de)]) hx hb dX2_move_58 hl (k := 1) rfl (by rw [ex_58]; rfl) (by decide) rfl (fun ls hl => ?_)
          refine lv_goto (tgt := 18) hx hb dX2_move_61 (by decide) ?_
          exact ih (f_57, x_58) (by subst ex_58; subst ef_57; subst er_54;  exact Nat.lt_of_lt_of_le (ms_up c_23) (Nat.le_of_lt_succ hm9)) (by rw [← hL9]; subst ex_58; subst ef_57; simp only [LX2_move_18, ← er_54]; (try simp only [if_neg c_23])) _ _ hP hD hS ls (lv_sub hl [1, 0] rfl)
    exact lp_18 (msU u_2.2.1 0 + 1) (v_srcF, 0) (Nat.lt_succ_self _) eg_18.symm _ _ hP hD hS ls (lv_sub hl [1, 0] rfl)
  · skip
    have hf9 : (u_2.1, u_2.2.1, u_2.2.2, v_bF, v_srcF) = fX2_move v_fb v_sb v_op v_r v_s v_a v_b v_fault v_word v_bF v_kF v_srcF := by simp only [fX2_move, ← eu_2, ← er_9]; (try simp only [if_pos c_12])
    exact W.vret hx hb hr (fun t9 ht9 hW9 => ⟨⟨(u_2.1, u_2.2.1, u_2.2.2, v_bF, v_srcF), rfl, hf9, ⟨by rw [ht9]; exact hP, va_K.moved hW9.alike hK, hD⟩⟩, hS.F ht9⟩) hS.2.2 dX2_move_15
theorem hdX2_move : yX2_move.cls = RX2 ∧ yX2_move.cls ≠ "java/lang/invoke/MethodHandle" ∧ yX2_move.cls ≠ "java/lang/invoke/VarHandle" ∧ (parseMethodDescriptor yX2_move.desc).map (fun d => d.parameters.length) = some 0 := by decide +kernel
noncomputable def fX2_takeBoth (x0 : Int32) (v_fb : Int32) (v_sb : Int32) (v_a : Int32) (v_b : Int32) (v_fault : Int32) (v_bF : (Nat → Int32)) (v_below1 : Int32) (v_dF1 : (Nat → Int32)) (v_below2 : Int32) (v_dF2 : (Nat → Int32)) : (Int32 × Int32 × (Nat → Int32) × Int32 × (Nat → Int32)) :=
  let r_4 := fX5_fine v_fault
  if r_4 = 0 then ((v_fault, v_below1, v_dF1, v_below2, v_dF2)) else (let p_30 := fX1_take v_a v_fb v_bF v_below1 v_dF1; let r_30 := p_30.1; let u_30 := p_30.2; let p_53 := fX1_take v_b v_sb v_bF v_below2 v_dF2; let r_53 := p_53.1; let u_53 := p_53.2; if r_53 = 0 then (let u_75 := fX5_fail 7 v_fault; (u_75, u_30.1, u_30.2, u_53.1, u_53.2)) else (if r_30 = 0 then (if x0 = 0 then (let u_75 := fX5_fail 7 v_fault; (u_75, u_30.1, u_30.2, u_53.1, u_53.2)) else ((v_fault, u_30.1, u_30.2, u_53.1, u_53.2))) else ((v_fault, u_30.1, u_30.2, u_53.1, u_53.2))))
abbrev wX2_takeBoth (cI cB : ClassId) (a_de a_ins a_mc a_me a_ps a_by a_ks a_rg a_d1 a_dg1 a_d2 a_dg2 a_src : Nat) (v_fb : Int32) (v_sb : Int32) (v_op : Int32) (v_i : Int32) (v_r : Int32) (v_s : Int32) (v_a : Int32) (v_b : Int32) (v_fault : Int32) (v_bF : (Nat → Int32)) (v_below1 : Int32) (v_dF1 : (Nat → Int32)) (v_below2 : Int32) (v_dF2 : (Nat → Int32)) : va_W := [(a_de, .inr (2, [.ref a_mc, .ref a_ins, .ref a_me, .ref a_d1, .ref a_d2, .ref a_src, .int v_fb, .int v_sb])), (a_ins, .inr (4, [.ref a_mc, .ref a_me, .int v_op, .int v_i, .int v_r, .int v_s, .int v_a, .int v_b])), (a_mc, .inr (5, [.ref a_me, .ref a_ps, .ref a_rg, .int v_fault])), (a_me, .inr (6, [.ref a_by, .ref a_ks])), (a_by, .inl (cB, 8192, .inl v_bF)), (a_d1, .inr (1, [.ref a_dg1, .int v_below1])), (a_dg1, .inl (cI, 32, .inl v_dF1)), (a_d2, .inr (1, [.ref a_dg2, .int v_below2])), (a_dg2, .inl (cI, 32, .inl v_dF2))]
abbrev rmX2_takeBoth : Room := { frames := 2, cells := 0, slots := 0, locals := 51 }
abbrev qX2_takeBoth (D : va_G) (cI cB : ClassId) (a_de a_ins a_mc a_me a_ps a_by a_ks a_rg a_d1 a_dg1 a_d2 a_dg2 a_src : Nat) (v_fb : Int32) (v_sb : Int32) (v_op : Int32) (v_i : Int32) (v_r : Int32) (v_s : Int32) (v_a : Int32) (v_b : Int32) (v_fault : Int32) (v_bF : (Nat → Int32)) (v_below1 : Int32) (v_dF1 : (Nat → Int32)) (v_below2 : Int32) (v_dF2 : (Nat → Int32)) (x0 : Int32) : (Nat → Prop) → Array Value → State → Outcome → State → Prop := fun A9 => va_Qv (fun (u9 : (Int32 × Int32 × (Nat → Int32) × Int32 × (Nat → Int32))) => u9 = fX2_takeBoth x0 v_fb v_sb v_a v_b v_fault v_bF v_below1 v_dF1 v_below2 v_dF2) (fun u9 t9 => atW D (TYS cI cB) A9 (wX2_takeBoth cI cB a_de a_ins a_mc a_me a_ps a_by a_ks a_rg a_d1 a_dg1 a_d2 a_dg2 a_src v_fb v_sb v_op v_i v_r v_s v_a v_b u9.1 v_bF u9.2.1 u9.2.2.1 u9.2.2.2.1 u9.2.2.2.2) t9) A9
set_option maxHeartbeats 4000000 in
set_option maxRecDepth 100000 in
theorem kX2_takeBoth (l : Launch) (D : va_G) (cI cB : ClassId) (a_de a_ins a_mc a_me a_ps a_by a_ks a_rg a_d1 a_dg1 a_d2 a_dg2 a_src : Nat) (sz : Nat) (v_fb : Int32) (v_sb : Int32) (v_op : Int32) (v_i : Int32) (v_r : Int32) (v_s : Int32) (v_a : Int32) (v_b : Int32) (v_fault : Int32) (v_bF : (Nat → Int32)) (v_below1 : Int32) (v_dF1 : (Nat → Int32)) (v_below2 : Int32) (v_dF2 : (Nat → Int32)) (x0 : Int32) : MetW l yX2_takeBoth (WK yX2_takeBoth cX2_takeBoth 4 none) rmX2_takeBoth D (TYS cI cB) (wX2_takeBoth cI cB a_de a_ins a_mc a_me a_ps a_by a_ks a_rg a_d1 a_dg1 a_d2 a_dg2 a_src v_fb v_sb v_op v_i v_r v_s v_a v_b v_fault v_bF v_below1 v_dF1 v_below2 v_dF2) sz [.ref a_de, .int x0] (qX2_takeBoth D cI cB a_de a_ins a_mc a_me a_ps a_by a_ks a_rg a_d1 a_dg1 a_d2 a_dg2 a_src v_fb v_sb v_op v_i v_r v_s v_a v_b v_fault v_bF v_below1 v_dF1 v_below2 v_dF2 x0) 0 0 := by
  refine met_std (by decide) rfl (Nat.le_of_ble_eq_true rfl) ?_
  intro p e s m below meth c A ls H hx hb hr hml hown hts hlocks hA hP hK hD hS hNW hl
  have hl : lv_has ls 4 [(0, .ref a_de), (1, .int x0)] := hl
  have q_0 := hts _ (List.mem_cons_of_mem _ wd_188)
  have q_1 := hts _ (List.mem_cons_of_mem _ wd_193)
  have q_2 := hts _ (List.mem_cons_of_mem _ wd_190)
  have q_3 := hts _ (List.mem_cons_of_mem _ wd_189)
  have q_4 := hts _ (List.mem_cons_of_mem _ wd_217)
  have q_5 := hts _ (List.mem_cons_of_mem _ wd_194)
  have q_6 := hts _ (List.mem_cons_of_mem _ wd_218)
  have n_0 := hNW.f (A := ([.ref a_de, .int x0] : List Value).toArray) ("MainframeCore$Decimals", 40, "MainframeCore$Instruction", "a", "I", "MainframeCore") (by decide +kernel)
  have n_1 := hNW.f (A := ([.ref a_de, .int x0] : List Value).toArray) ("MainframeCore$Decimals", 101, "MainframeCore$Instruction", "b", "I", "MainframeCore") (by decide +kernel)
  refine lv_aload_n hx hb dX2_takeBoth_0 rfl (lv_at hl 0 rfl) ?_
  refine va_get (D := D) (ci := 2) (v := .ref a_mc) (C := RX2) (T := TX2) (N := 8) hx hb hts in_X2 hown hK hP 0 rfl rfl 0 (by decide) q_0 (fun _ h9 => h9) rfl dX2_takeBoth_1 ?_
  have hPc : va_P D vwCl (wX5_fine cI cB a_mc a_me a_ps a_rg v_fault) H := hP.sub [2] rfl
  have hDc : va_D A (wX5_fine cI cB a_mc a_me a_ps a_rg v_fault) := hD.sub [2] (by decide) rfl
  have hFc := va_free (wc := (wX5_fine cI cB a_mc a_me a_ps a_rg v_fault)) hD hS hA [2] rfl
  refine va_calli (va_runV (As := []) (rest := []) ⟨hx, hb, hml, hown, hts⟩ (kX5_fine l D cI cB a_mc a_me a_ps a_rg H.size v_fault ) (cwV 0 hts (gd_V wd_199 wd_73 wd_74 wd_24 wd_66) rfl rfl rfl hdX5_fine ⟨Nat.le_of_ble_eq_true rfl, Nat.le_of_ble_eq_true rfl⟩) (preV_std (ci := 5) (q0 := 0) hPc hK hDc hNW rfl rfl) rfl rfl hl.1 rfl (lv_room (Nat.le_of_ble_eq_true rfl)) dX2_takeBoth_4 ⟨Nat.zero_le _, Nat.zero_le _⟩) hS (fun q _ h => hFc q h) hFc (fun r_4 u_4 t9 H1 locs ht9 hvm9 hw9 hB9 hz9 hk9 hS => ?_)
  have er_4 : r_4 = fX5_fine v_fault := hw9
  have zr_4 : r_4 = 0 ∨ r_4 = 1 := by rw [er_4]; exact zX5_fine _
  obtain ⟨hP, hD⟩ := back_std (w1 := (wX5_fine cI cB a_mc a_me a_ps a_rg v_fault)) (w2 := (wX2_takeBoth cI cB a_de a_ins a_mc a_me a_ps a_by a_ks a_rg a_d1 a_dg1 a_d2 a_dg2 a_src v_fb v_sb v_op v_i v_r v_s v_a v_b v_fault v_bF v_below1 v_dF1 v_below2 v_dF2)) (wr := [(a_de, .inr (2, [.ref a_mc, .ref a_ins, .ref a_me, .ref a_d1, .ref a_d2, .ref a_src, .int v_fb, .int v_sb])), (a_ins, .inr (4, [.ref a_mc, .ref a_me, .int v_op, .int v_i, .int v_r, .int v_s, .int v_a, .int v_b])), (a_me, .inr (6, [.ref a_by, .ref a_ks])), (a_by, .inl (cB, 8192, .inl v_bF)), (a_d1, .inr (1, [.ref a_dg1, .int v_below1])), (a_dg1, .inl (cI, 32, .inl v_dF1)), (a_d2, .inr (1, [.ref a_dg2, .int v_below2])), (a_dg2, .inl (cI, 32, .inl v_dF2))]) hP hD [2] [0, 1, 3, 4, 5, 6, 7, 8] [0, 1, 8, 2, 3, 4, 5, 6, 7] rfl rfl (by decide) (by decide) hk9 hFc hB9 ht9 (by decide) rfl
  clear hB9 hk9 hz9 hvm9 ht9 hFc hPc hDc
  generalize H1 = H at hP hS ⊢
  refine lv_if_ne (tgt := 11) hx hb dX2_takeBoth_7 (by decide) (fun c_7 => ?_) (fun c_7 => ?_)
  · skip
    refine lv_aload_n hx hb dX2_takeBoth_11 rfl (lv_at hl 0 rfl) ?_
    refine va_get (D := D) (ci := 2) (v := .ref a_d1) (C := RX2) (T := TX2) (N := 8) hx hb hts in_X2 hown hK hP 0 rfl rfl 3 (by decide) q_1 (fun _ h9 => h9) rfl dX2_takeBoth_12 ?_
    refine lv_aload_n hx hb dX2_takeBoth_15 rfl (lv_at hl 0 rfl) ?_
    refine va_get (D := D) (ci := 2) (v := .ref a_me) (C := RX2) (T := TX2) (N := 8) hx hb hts in_X2 hown hK hP 0 rfl rfl 2 (by decide) q_2 (fun _ h9 => h9) rfl dX2_takeBoth_16 ?_
    refine lv_aload_n hx hb dX2_takeBoth_19 rfl (lv_at hl 0 rfl) ?_
    refine va_get (D := D) (ci := 2) (v := .ref a_ins) (C := RX2) (T := TX2) (N := 8) hx hb hts in_X2 hown hK hP 0 rfl rfl 1 (by decide) q_3 (fun _ h9 => h9) rfl dX2_takeBoth_20 ?_
    refine va_getN (D := D) (ci := 4) (v := .int v_a) (C := RX4) (T := TX4) (N := 8) hx hb hts in_X4 hown hK hP 1 rfl rfl 6 (by decide) n_0 (fun _ h9 => h9) rfl dX2_takeBoth_23 ?_
    refine lv_aload_n hx hb dX2_takeBoth_26 rfl (lv_at hl 0 rfl) ?_
    refine va_get (D := D) (ci := 2) (v := .int v_fb) (C := RX2) (T := TX2) (N := 8) hx hb hts in_X2 hown hK hP 0 rfl rfl 6 (by decide) q_4 (fun _ h9 => h9) rfl dX2_takeBoth_27 ?_
    have hPc : va_P D vwCl (wX1_take cI cB a_me a_by a_ks a_d1 a_dg1 v_bF v_below1 v_dF1) H := hP.sub [3, 4, 5, 6] rfl
    have hDc : va_D A (wX1_take cI cB a_me a_by a_ks a_d1 a_dg1 v_bF v_below1 v_dF1) := hD.sub [3, 4, 5, 6] (by decide) rfl
    have hFc := va_free (wc := (wX1_take cI cB a_me a_by a_ks a_d1 a_dg1 v_bF v_below1 v_dF1)) hD hS hA [3, 4, 5, 6] rfl
    refine va_calli (va_runV (As := [.ref a_me, .int v_a, .int v_fb]) (rest := []) ⟨hx, hb, hml, hown, hts⟩ (kX1_take l D cI cB a_me a_by a_ks a_d1 a_dg1 H.size v_bF v_below1 v_dF1 v_a v_fb) (cwV 3 hts (gd_V wd_208 wd_209 wd_210 wd_138 wd_133) rfl rfl rfl hdX1_take ⟨Nat.le_of_ble_eq_true rfl, Nat.le_of_ble_eq_true rfl⟩) (preV_std (ci := 1) (q0 := 2) hPc hK hDc hNW rfl rfl) rfl rfl hl.1 rfl (lv_room (Nat.le_of_ble_eq_true rfl)) dX2_takeBoth_30 ⟨Nat.zero_le _, Nat.zero_le _⟩) hS (fun q _ h => hFc q h) hFc (fun r_30 u_30 t9 H1 locs ht9 hvm9 hw9 hB9 hz9 hk9 hS => ?_)
    obtain ⟨er_30, eu_30⟩ := hw9
    have zr_30 : r_30 = 0 ∨ r_30 = 1 := by rw [er_30]; exact zX1_take _ _ _ _ _
    obtain ⟨hP, hD⟩ := back_std (w1 := (wX1_take cI cB a_me a_by a_ks a_d1 a_dg1 v_bF u_30.1 u_30.2)) (w2 := (wX2_takeBoth cI cB a_de a_ins a_mc a_me a_ps a_by a_ks a_rg a_d1 a_dg1 a_d2 a_dg2 a_src v_fb v_sb v_op v_i v_r v_s v_a v_b v_fault v_bF u_30.1 u_30.2 v_below2 v_dF2)) (wr := [(a_de, .inr (2, [.ref a_mc, .ref a_ins, .ref a_me, .ref a_d1, .ref a_d2, .ref a_src, .int v_fb, .int v_sb])), (a_ins, .inr (4, [.ref a_mc, .ref a_me, .int v_op, .int v_i, .int v_r, .int v_s, .int v_a, .int v_b])), (a_mc, .inr (5, [.ref a_me, .ref a_ps, .ref a_rg, .int v_fault])), (a_d2, .inr (1, [.ref a_dg2, .int v_below2])), (a_dg2, .inl (cI, 32, .inl v_dF2))]) hP hD [3, 4, 5, 6] [0, 1, 2, 7, 8] [0, 1, 2, 5, 6, 7, 8, 3, 4] rfl rfl (by decide) (by decide) hk9 hFc hB9 ht9 (by decide) rfl
    clear hB9 hk9 hz9 hvm9 ht9 hFc hPc hDc
    generalize H1 = H at hP hS ⊢
    refine lv_istore_n (lv' := [(2, .int r_30), (0, .ref a_de), (1, .int x0)]) hx hb dX2_takeBoth_33 rfl hl (by decide) rfl (fun ls hl => ?_)
    refine lv_aload_n hx hb dX2_takeBoth_34 rfl (lv_at hl 1 rfl) ?_
    refine va_get (D := D) (ci := 2) (v := .ref a_d2) (C := RX2) (T := TX2) (N := 8) hx hb hts in_X2 hown hK hP 0 rfl rfl 4 (by decide) q_5 (fun _ h9 => h9) rfl dX2_takeBoth_35 ?_
    refine lv_aload_n hx hb dX2_takeBoth_38 rfl (lv_at hl 1 rfl) ?_
    refine va_get (D := D) (ci := 2) (v := .ref a_me) (C := RX2) (T := TX2) (N := 8) hx hb hts in_X2 hown hK hP 0 rfl rfl 2 (by decide) q_2 (fun _ h9 => h9) rfl dX2_takeBoth_39 ?_
    refine lv_aload_n hx hb dX2_takeBoth_42 rfl (lv_at hl 1 rfl) ?_
    refine va_get (D := D) (ci := 2) (v := .ref a_ins) (C := RX2) (T := TX2) (N := 8) hx hb hts in_X2 hown hK hP 0 rfl rfl 1 (by decide) q_3 (fun _ h9 => h9) rfl dX2_takeBoth_43 ?_
    refine va_getN (D := D) (ci := 4) (v := .int v_b) (C := RX4) (T := TX4) (N := 8) hx hb hts in_X4 hown hK hP 1 rfl rfl 7 (by decide) n_1 (fun _ h9 => h9) rfl dX2_takeBoth_46 ?_
    refine lv_aload_n hx hb dX2_takeBoth_49 rfl (lv_at hl 1 rfl) ?_
    refine va_get (D := D) (ci := 2) (v := .int v_sb) (C := RX2) (T := TX2) (N := 8) hx hb hts in_X2 hown hK hP 0 rfl rfl 7 (by decide) q_6 (fun _ h9 => h9) rfl dX2_takeBoth_50 ?_
    have hPc : va_P D vwCl (wX1_take cI cB a_me a_by a_ks a_d2 a_dg2 v_bF v_below2 v_dF2) H := hP.sub [3, 4, 7, 8] rfl
    have hDc : va_D A (wX1_take cI cB a_me a_by a_ks a_d2 a_dg2 v_bF v_below2 v_dF2) := hD.sub [3, 4, 7, 8] (by decide) rfl
    have hFc := va_free (wc := (wX1_take cI cB a_me a_by a_ks a_d2 a_dg2 v_bF v_below2 v_dF2)) hD hS hA [3, 4, 7, 8] rfl
    refine va_calli (va_runV (As := [.ref a_me, .int v_b, .int v_sb]) (rest := []) ⟨hx, hb, hml, hown, hts⟩ (kX1_take l D cI cB a_me a_by a_ks a_d2 a_dg2 H.size v_bF v_below2 v_dF2 v_b v_sb) (cwV 3 hts (gd_V wd_208 wd_209 wd_210 wd_138 wd_133) rfl rfl rfl hdX1_take ⟨Nat.le_of_ble_eq_true rfl, Nat.le_of_ble_eq_true rfl⟩) (preV_std (ci := 1) (q0 := 2) hPc hK hDc hNW rfl rfl) rfl rfl hl.1 rfl (lv_room (Nat.le_of_ble_eq_true rfl)) dX2_takeBoth_53 ⟨Nat.zero_le _, Nat.zero_le _⟩) hS (fun q _ h => hFc q h) hFc (fun r_53 u_53 t9 H1 locs ht9 hvm9 hw9 hB9 hz9 hk9 hS => ?_)
    obtain ⟨er_53, eu_53⟩ := hw9
    have zr_53 : r_53 = 0 ∨ r_53 = 1 := by rw [er_53]; exact zX1_take _ _ _ _ _
    obtain ⟨hP, hD⟩ := back_std (w1 := (wX1_take cI cB a_me a_by a_ks a_d2 a_dg2 v_bF u_53.1 u_53.2)) (w2 := (wX2_takeBoth cI cB a_de a_ins a_mc a_me a_ps a_by a_ks a_rg a_d1 a_dg1 a_d2 a_dg2 a_src v_fb v_sb v_op v_i v_r v_s v_a v_b v_fault v_bF u_30.1 u_30.2 u_53.1 u_53.2)) (wr := [(a_de, .inr (2, [.ref a_mc, .ref a_ins, .ref a_me, .ref a_d1, .ref a_d2, .ref a_src, .int v_fb, .int v_sb])), (a_ins, .inr (4, [.ref a_mc, .ref a_me, .int v_op, .int v_i, .int v_r, .int v_s, .int v_a, .int v_b])), (a_mc, .inr (5, [.ref a_me, .ref a_ps, .ref a_rg, .int v_fault])), (a_d1, .inr (1, [.ref a_dg1, .int u_30.1])), (a_dg1, .inl (cI, 32, .inl u_30.2))]) hP hD [3, 4, 7, 8] [0, 1, 2, 5, 6] [0, 1, 2, 5, 6, 3, 4, 7, 8] rfl rfl (by decide) (by decide) hk9 hFc hB9 ht9 (by decide) rfl
    clear hB9 hk9 hz9 hvm9 ht9 hFc hPc hDc
    generalize H1 = H at hP hS ⊢
    refine lv_istore_n (lv' := [(3, .int r_53), (2, .int r_30), (0, .ref a_de), (1, .int x0)]) hx hb dX2_takeBoth_56 rfl hl (by decide) rfl (fun ls hl => ?_)
    refine lv_iload_n hx hb dX2_takeBoth_57 rfl (lv_at hl 0 rfl) ?_
    refine lv_if_eq (tgt := 69) hx hb dX2_takeBoth_58 (by decide) (fun c_58 => ?_) (fun c_58 => ?_)
    · skip
      refine lv_aload_n hx hb dX2_takeBoth_69 rfl (lv_at hl 2 rfl) ?_
      refine va_get (D := D) (ci := 2) (v := .ref a_mc) (C := RX2) (T := TX2) (N := 8) hx hb hts in_X2 hown hK hP 0 rfl rfl 0 (by decide) q_0 (fun _ h9 => h9) rfl dX2_takeBoth_70 ?_
      refine lv_bipush (v := 7) hx hb dX2_takeBoth_73 (by decide) ?_
      have hPc : va_P D vwCl (wX5_fail cI cB a_mc a_me a_ps a_rg v_fault) H := hP.sub [2] rfl
      have hDc : va_D A (wX5_fail cI cB a_mc a_me a_ps a_rg v_fault) := hD.sub [2] (by decide) rfl
      have hFc := va_free (wc := (wX5_fail cI cB a_mc a_me a_ps a_rg v_fault)) hD hS hA [2] rfl
      refine va_callv (va_runV (As := [.int 7]) (rest := []) ⟨hx, hb, hml, hown, hts⟩ (kX5_fail l D cI cB a_mc a_me a_ps a_rg H.size v_fault 7) (cwV 1 hts (gd_V wd_211 wd_54 wd_55 wd_24 wd_46) rfl rfl rfl hdX5_fail ⟨Nat.le_of_ble_eq_true rfl, Nat.le_of_ble_eq_true rfl⟩) (preV_std (ci := 5) (q0 := 0) hPc hK hDc hNW rfl rfl) rfl rfl hl.1 rfl (lv_room (Nat.le_of_ble_eq_true rfl)) dX2_takeBoth_75 ⟨Nat.zero_le _, Nat.zero_le _⟩) hS (fun q _ h => hFc q h) hFc (fun u_75 t9 H1 locs ht9 hvm9 hw9 hB9 hz9 hk9 hS => ?_)
      have eu_75 : u_75 = fX5_fail 7 v_fault := hw9
      obtain ⟨hP, hD⟩ := back_std (w1 := (wX5_fail cI cB a_mc a_me a_ps a_rg u_75)) (w2 := (wX2_takeBoth cI cB a_de a_ins a_mc a_me a_ps a_by a_ks a_rg a_d1 a_dg1 a_d2 a_dg2 a_src v_fb v_sb v_op v_i v_r v_s v_a v_b u_75 v_bF u_30.1 u_30.2 u_53.1 u_53.2)) (wr := [(a_de, .inr (2, [.ref a_mc, .ref a_ins, .ref a_me, .ref a_d1, .ref a_d2, .ref a_src, .int v_fb, .int v_sb])), (a_ins, .inr (4, [.ref a_mc, .ref a_me, .int v_op, .int v_i, .int v_r, .int v_s, .int v_a, .int v_b])), (a_me, .inr (6, [.ref a_by, .ref a_ks])), (a_by, .inl (cB, 8192, .inl v_bF)), (a_d1, .inr (1, [.ref a_dg1, .int u_30.1])), (a_dg1, .inl (cI, 32, .inl u_30.2)), (a_d2, .inr (1, [.ref a_dg2, .int u_53.1])), (a_dg2, .inl (cI, 32, .inl u_53.2))]) hP hD [2] [0, 1, 3, 4, 5, 6, 7, 8] [0, 1, 8, 2, 3, 4, 5, 6, 7] rfl rfl (by decide) (by decide) hk9 hFc hB9 ht9 (by decide) rfl
      clear hB9 hk9 hz9 hvm9 ht9 hFc hPc hDc
      generalize H1 = H at hP hS ⊢
      have hf9 : (u_75, u_30.1, u_30.2, u_53.1, u_53.2) = fX2_takeBoth x0 v_fb v_sb v_a v_b v_fault v_bF v_below1 v_dF1 v_below2 v_dF2 := by simp only [fX2_takeBoth, ← er_4, ← er_30, ← eu_30, ← er_53, ← eu_53, ← eu_75]; (try simp only [if_neg c_7, if_pos c_58])
      exact W.vret hx hb hr (fun t9 ht9 hW9 => ⟨⟨(u_75, u_30.1, u_30.2, u_53.1, u_53.2), rfl, hf9, ⟨by rw [ht9]; exact hP, va_K.moved hW9.alike hK, hD⟩⟩, hS.F ht9⟩) hS.2.2 dX2_takeBoth_78
    · skip
      refine lv_iload_n hx hb dX2_takeBoth_61 rfl (lv_at hl 1 rfl) ?_
      refine lv_if_ne (tgt := 78) hx hb dX2_takeBoth_62 (by decide) (fun c_62 => ?_) (fun c_62 => ?_)
      · skip
        have hf9 : (v_fault, u_30.1, u_30.2, u_53.1, u_53.2) = fX2_takeBoth x0 v_fb v_sb v_a v_b v_fault v_bF v_below1 v_dF1 v_below2 v_dF2 := by simp only [fX2_takeBoth, ← er_4, ← er_30, ← eu_30, ← er_53, ← eu_53]; (try simp only [if_neg c_7, if_neg c_58, if_neg c_62])
        exact W.vret hx hb hr (fun t9 ht9 hW9 => ⟨⟨(v_fault, u_30.1, u_30.2, u_53.1, u_53.2), rfl, hf9, ⟨by rw [ht9]; exact hP, va_K.moved hW9.alike hK, hD⟩⟩, hS.F ht9⟩) hS.2.2 dX2_takeBoth_78
      · skip
        refine lv_iload_n hx hb dX2_takeBoth_65 rfl (lv_at hl 3 rfl) ?_
        refine lv_if_ne (tgt := 78) hx hb dX2_takeBoth_66 (by decide) (fun c_66 => ?_) (fun c_66 => ?_)
        · skip
          have hf9 : (v_fault, u_30.1, u_30.2, u_53.1, u_53.2) = fX2_takeBoth x0 v_fb v_sb v_a v_b v_fault v_bF v_below1 v_dF1 v_below2 v_dF2 := by simp only [fX2_takeBoth, ← er_4, ← er_30, ← eu_30, ← er_53, ← eu_53]; (try simp only [if_neg c_7, if_neg c_58, if_pos c_62, if_neg c_66])
          exact W.vret hx hb hr (fun t9 ht9 hW9 => ⟨⟨(v_fault, u_30.1, u_30.2, u_53.1, u_53.2), rfl, hf9, ⟨by rw [ht9]; exact hP, va_K.moved hW9.alike hK, hD⟩⟩, hS.F ht9⟩) hS.2.2 dX2_takeBoth_78
        · skip
          refine lv_aload_n hx hb dX2_takeBoth_69 rfl (lv_at hl 2 rfl) ?_
          refine va_get (D := D) (ci := 2) (v := .ref a_mc) (C := RX2) (T := TX2) (N := 8) hx hb hts in_X2 hown hK hP 0 rfl rfl 0 (by decide) q_0 (fun _ h9 => h9) rfl dX2_takeBoth_70 ?_
          refine lv_bipush (v := 7) hx hb dX2_takeBoth_73 (by decide) ?_
          have hPc : va_P D vwCl (wX5_fail cI cB a_mc a_me a_ps a_rg v_fault) H := hP.sub [2] rfl
          have hDc : va_D A (wX5_fail cI cB a_mc a_me a_ps a_rg v_fault) := hD.sub [2] (by decide) rfl
          have hFc := va_free (wc := (wX5_fail cI cB a_mc a_me a_ps a_rg v_fault)) hD hS hA [2] rfl
          refine va_callv (va_runV (As := [.int 7]) (rest := []) ⟨hx, hb, hml, hown, hts⟩ (kX5_fail l D cI cB a_mc a_me a_ps a_rg H.size v_fault 7) (cwV 1 hts (gd_V wd_211 wd_54 wd_55 wd_24 wd_46) rfl rfl rfl hdX5_fail ⟨Nat.le_of_ble_eq_true rfl, Nat.le_of_ble_eq_true rfl⟩) (preV_std (ci := 5) (q0 := 0) hPc hK hDc hNW rfl rfl) rfl rfl hl.1 rfl (lv_room (Nat.le_of_ble_eq_true rfl)) dX2_takeBoth_75 ⟨Nat.zero_le _, Nat.zero_le _⟩) hS (fun q _ h => hFc q h) hFc (fun u_75 t9 H1 locs ht9 hvm9 hw9 hB9 hz9 hk9 hS => ?_)
          have eu_75 : u_75 = fX5_fail 7 v_fault := hw9
          obtain ⟨hP, hD⟩ := back_std (w1 := (wX5_fail cI cB a_mc a_me a_ps a_rg u_75)) (w2 := (wX2_takeBoth cI cB a_de a_ins a_mc a_me a_ps a_by a_ks a_rg a_d1 a_dg1 a_d2 a_dg2 a_src v_fb v_sb v_op v_i v_r v_s v_a v_b u_75 v_bF u_30.1 u_30.2 u_53.1 u_53.2)) (wr := [(a_de, .inr (2, [.ref a_mc, .ref a_ins, .ref a_me, .ref a_d1, .ref a_d2, .ref a_src, .int v_fb, .int v_sb])), (a_ins, .inr (4, [.ref a_mc, .ref a_me, .int v_op, .int v_i, .int v_r, .int v_s, .int v_a, .int v_b])), (a_me, .inr (6, [.ref a_by, .ref a_ks])), (a_by, .inl (cB, 8192, .inl v_bF)), (a_d1, .inr (1, [.ref a_dg1, .int u_30.1])), (a_dg1, .inl (cI, 32, .inl u_30.2)), (a_d2, .inr (1, [.ref a_dg2, .int u_53.1])), (a_dg2, .inl (cI, 32, .inl u_53.2))]) hP hD [2] [0, 1, 3, 4, 5, 6, 7, 8] [0, 1, 8, 2, 3, 4, 5, 6, 7] rfl rfl (by decide) (by decide) hk9 hFc hB9 ht9 (by decide) rfl
          clear hB9 hk9 hz9 hvm9 ht9 hFc hPc hDc
          generalize H1 = H at hP hS ⊢
          have hf9 : (u_75, u_30.1, u_30.2, u_53.1, u_53.2) = fX2_takeBoth x0 v_fb v_sb v_a v_b v_fault v_bF v_below1 v_dF1 v_below2 v_dF2 := by simp only [fX2_takeBoth, ← er_4, ← er_30, ← eu_30, ← er_53, ← eu_53, ← eu_75]; (try simp only [if_neg c_7, if_neg c_58, if_pos c_62, if_pos c_66])
          exact W.vret hx hb hr (fun t9 ht9 hW9 => ⟨⟨(u_75, u_30.1, u_30.2, u_53.1, u_53.2), rfl, hf9, ⟨by rw [ht9]; exact hP, va_K.moved hW9.alike hK, hD⟩⟩, hS.F ht9⟩) hS.2.2 dX2_takeBoth_78
  · skip
    have hf9 : (v_fault, v_below1, v_dF1, v_below2, v_dF2) = fX2_takeBoth x0 v_fb v_sb v_a v_b v_fault v_bF v_below1 v_dF1 v_below2 v_dF2 := by simp only [fX2_takeBoth, ← er_4]; (try simp only [if_pos c_7])
    exact W.vret hx hb hr (fun t9 ht9 hW9 => ⟨⟨(v_fault, v_below1, v_dF1, v_below2, v_dF2), rfl, hf9, ⟨by rw [ht9]; exact hP, va_K.moved hW9.alike hK, hD⟩⟩, hS.F ht9⟩) hS.2.2 dX2_takeBoth_10
theorem hdX2_takeBoth : yX2_takeBoth.cls = RX2 ∧ yX2_takeBoth.cls ≠ "java/lang/invoke/MethodHandle" ∧ yX2_takeBoth.cls ≠ "java/lang/invoke/VarHandle" ∧ (parseMethodDescriptor yX2_takeBoth.desc).map (fun d => d.parameters.length) = some 1 := by decide +kernel
theorem zb_take (x1 x2 : Int32) (bF dF : Nat → Int32) (b : Int32) : (fX1_take x1 x2 bF b dF).2.1 = 0 ∨ (fX1_take x1 x2 bF b dF).2.1 = 1 := zX1_isSignBelow _
theorem zb_tb1 {x0 fb sb a b fault : Int32} {bF dF1 dF2 : Nat → Int32} {b1 b2 : Int32} (h : b1 = 0 ∨ b1 = 1) : (fX2_takeBoth x0 fb sb a b fault bF b1 dF1 b2 dF2).2.1 = 0 ∨ (fX2_takeBoth x0 fb sb a b fault bF b1 dF1 b2 dF2).2.1 = 1 := by
  simp only [fX2_takeBoth]
  (repeat' split) <;> first | exact h | exact zb_take a fb bF dF1 b1
theorem zb_tb2 {x0 fb sb a b fault : Int32} {bF dF1 dF2 : Nat → Int32} {b1 b2 : Int32} (h : b2 = 0 ∨ b2 = 1) : (fX2_takeBoth x0 fb sb a b fault bF b1 dF1 b2 dF2).2.2.2.1 = 0 ∨ (fX2_takeBoth x0 fb sb a b fault bF b1 dF1 b2 dF2).2.2.2.1 = 1 := by
  simp only [fX2_takeBoth]
  (repeat' split) <;> first | exact h | exact zb_take b sb bF dF2 b2
noncomputable def fX2_giveFirst (v_fb : Int32) (v_a : Int32) (v_fault : Int32) (v_word : Int64) (v_bF : (Nat → Int32)) (v_below1 : Int32) (v_dF1 : (Nat → Int32)) : (Int32 × Int64 × (Nat → Int32)) :=
  let u_19 := fX1_give v_a v_fb v_bF v_below1 v_dF1
  let r_34 := fX1_isLongerThan ((2 * v_fb) - 1) v_dF1
  if r_34 = 0 then (let r_62 := fX1_sign v_below1 v_dF1; let u_66 := fX5_conditionByNumber ((r_62 : Int32).toInt64) v_word; (v_fault, u_66, u_19)) else (let u_48 := fX5_overflow 37 10 v_fault v_word; (u_48.1, u_48.2, u_19))
abbrev wX2_giveFirst (cI cB : ClassId) (a_de a_ins a_mc a_me a_ps a_by a_ks a_rg a_d1 a_dg1 a_d2 a_src : Nat) (v_fb : Int32) (v_sb : Int32) (v_op : Int32) (v_i : Int32) (v_r : Int32) (v_s : Int32) (v_a : Int32) (v_b : Int32) (v_fault : Int32) (v_word : Int64) (v_bF : (Nat → Int32)) (v_below1 : Int32) (v_dF1 : (Nat → Int32)) : va_W := [(a_de, .inr (2, [.ref a_mc, .ref a_ins, .ref a_me, .ref a_d1, .ref a_d2, .ref a_src, .int v_fb, .int v_sb])), (a_ins, .inr (4, [.ref a_mc, .ref a_me, .int v_op, .int v_i, .int v_r, .int v_s, .int v_a, .int v_b])), (a_mc, .inr (5, [.ref a_me, .ref a_ps, .ref a_rg, .int v_fault])), (a_me, .inr (6, [.ref a_by, .ref a_ks])), (a_ps, .inr (7, [.long v_word])), (a_by, .inl (cB, 8192, .inl v_bF)), (a_d1, .inr (1, [.ref a_dg1, .int v_below1])), (a_dg1, .inl (cI, 32, .inl v_dF1))]
abbrev rmX2_giveFirst : Room := { frames := 3, cells := 0, slots := 0, locals := 64 }
abbrev qX2_giveFirst (D : va_G) (cI cB : ClassId) (a_de a_ins a_mc a_me a_ps a_by a_ks a_rg a_d1 a_dg1 a_d2 a_src : Nat) (v_fb : Int32) (v_sb : Int32) (v_op : Int32) (v_i : Int32) (v_r : Int32) (v_s : Int32) (v_a : Int32) (v_b : Int32) (v_fault : Int32) (v_word : Int64) (v_bF : (Nat → Int32)) (v_below1 : Int32) (v_dF1 : (Nat → Int32)) : (Nat → Prop) → Array Value → State → Outcome → State → Prop := fun A9 => va_Qv (fun (u9 : (Int32 × Int64 × (Nat → Int32))) => u9 = fX2_giveFirst v_fb v_a v_fault v_word v_bF v_below1 v_dF1) (fun u9 t9 => atW D (TYS cI cB) A9 (wX2_giveFirst cI cB a_de a_ins a_mc a_me a_ps a_by a_ks a_rg a_d1 a_dg1 a_d2 a_src v_fb v_sb v_op v_i v_r v_s v_a v_b u9.1 u9.2.1 u9.2.2 v_below1 v_dF1) t9) A9
set_option maxHeartbeats 4000000 in
set_option maxRecDepth 100000 in
theorem kX2_giveFirst (l : Launch) (D : va_G) (cI cB : ClassId) (a_de a_ins a_mc a_me a_ps a_by a_ks a_rg a_d1 a_dg1 a_d2 a_src : Nat) (sz : Nat) (v_fb : Int32) (v_sb : Int32) (v_op : Int32) (v_i : Int32) (v_r : Int32) (v_s : Int32) (v_a : Int32) (v_b : Int32) (v_fault : Int32) (v_word : Int64) (v_bF : (Nat → Int32)) (v_below1 : Int32) (v_dF1 : (Nat → Int32)) : MetW l yX2_giveFirst (WK yX2_giveFirst cX2_giveFirst 1 none) rmX2_giveFirst D (TYS cI cB) (wX2_giveFirst cI cB a_de a_ins a_mc a_me a_ps a_by a_ks a_rg a_d1 a_dg1 a_d2 a_src v_fb v_sb v_op v_i v_r v_s v_a v_b v_fault v_word v_bF v_below1 v_dF1) sz [.ref a_de] (qX2_giveFirst D cI cB a_de a_ins a_mc a_me a_ps a_by a_ks a_rg a_d1 a_dg1 a_d2 a_src v_fb v_sb v_op v_i v_r v_s v_a v_b v_fault v_word v_bF v_below1 v_dF1) 0 0 := by
  refine met_std (by decide) rfl (Nat.le_of_ble_eq_true rfl) ?_
  intro p e s m below meth c A ls H hx hb hr hml hown hts hlocks hA hP hK hD hS hNW hl
  have hl : lv_has ls 1 [(0, .ref a_de)] := hl
  have q_0 := hts _ (List.mem_cons_of_mem _ wd_193)
  have q_1 := hts _ (List.mem_cons_of_mem _ wd_190)
  have q_2 := hts _ (List.mem_cons_of_mem _ wd_189)
  have q_3 := hts _ (List.mem_cons_of_mem _ wd_217)
  have q_4 := hts _ (List.mem_cons_of_mem _ wd_188)
  have n_0 := hNW.f (A := ([.ref a_de] : List Value).toArray) ("MainframeCore$Decimals", 40, "MainframeCore$Instruction", "a", "I", "MainframeCore") (by decide +kernel)
  refine lv_aload_n hx hb dX2_giveFirst_0 rfl (lv_at hl 0 rfl) ?_
  refine va_get (D := D) (ci := 2) (v := .ref a_d1) (C := RX2) (T := TX2) (N := 8) hx hb hts in_X2 hown hK hP 0 rfl rfl 3 (by decide) q_0 (fun _ h9 => h9) rfl dX2_giveFirst_1 ?_
  refine lv_aload_n hx hb dX2_giveFirst_4 rfl (lv_at hl 0 rfl) ?_
  refine va_get (D := D) (ci := 2) (v := .ref a_me) (C := RX2) (T := TX2) (N := 8) hx hb hts in_X2 hown hK hP 0 rfl rfl 2 (by decide) q_1 (fun _ h9 => h9) rfl dX2_giveFirst_5 ?_
  refine lv_aload_n hx hb dX2_giveFirst_8 rfl (lv_at hl 0 rfl) ?_
  refine va_get (D := D) (ci := 2) (v := .ref a_ins) (C := RX2) (T := TX2) (N := 8) hx hb hts in_X2 hown hK hP 0 rfl rfl 1 (by decide) q_2 (fun _ h9 => h9) rfl dX2_giveFirst_9 ?_
  refine va_getN (D := D) (ci := 4) (v := .int v_a) (C := RX4) (T := TX4) (N := 8) hx hb hts in_X4 hown hK hP 1 rfl rfl 6 (by decide) n_0 (fun _ h9 => h9) rfl dX2_giveFirst_12 ?_
  refine lv_aload_n hx hb dX2_giveFirst_15 rfl (lv_at hl 0 rfl) ?_
  refine va_get (D := D) (ci := 2) (v := .int v_fb) (C := RX2) (T := TX2) (N := 8) hx hb hts in_X2 hown hK hP 0 rfl rfl 6 (by decide) q_3 (fun _ h9 => h9) rfl dX2_giveFirst_16 ?_
  have hPc : va_P D vwCl (wX1_give cI cB a_me a_by a_ks a_d1 a_dg1 v_bF v_below1 v_dF1) H := hP.sub [3, 5, 6, 7] rfl
  have hDc : va_D A (wX1_give cI cB a_me a_by a_ks a_d1 a_dg1 v_bF v_below1 v_dF1) := hD.sub [3, 5, 6, 7] (by decide) rfl
  have hFc := va_free (wc := (wX1_give cI cB a_me a_by a_ks a_d1 a_dg1 v_bF v_below1 v_dF1)) hD hS hA [3, 5, 6, 7] rfl
  refine va_callv (va_runV (As := [.ref a_me, .int v_a, .int v_fb]) (rest := []) ⟨hx, hb, hml, hown, hts⟩ (kX1_give l D cI cB a_me a_by a_ks a_d1 a_dg1 H.size v_bF v_below1 v_dF1 v_a v_fb) (cwV 3 hts (gd_V wd_204 wd_205 wd_206 wd_138 wd_146) rfl rfl rfl hdX1_give ⟨Nat.le_of_ble_eq_true rfl, Nat.le_of_ble_eq_true rfl⟩) (preV_std (ci := 1) (q0 := 2) hPc hK hDc hNW rfl rfl) rfl rfl hl.1 rfl (lv_room (Nat.le_of_ble_eq_true rfl)) dX2_giveFirst_19 ⟨Nat.zero_le _, Nat.zero_le _⟩) hS (fun q _ h => hFc q h) hFc (fun u_19 t9 H1 locs ht9 hvm9 hw9 hB9 hz9 hk9 hS => ?_)
  have eu_19 : u_19 = fX1_give v_a v_fb v_bF v_below1 v_dF1 := hw9
  obtain ⟨hP, hD⟩ := back_std (w1 := (wX1_give cI cB a_me a_by a_ks a_d1 a_dg1 u_19 v_below1 v_dF1)) (w2 := (wX2_giveFirst cI cB a_de a_ins a_mc a_me a_ps a_by a_ks a_rg a_d1 a_dg1 a_d2 a_src v_fb v_sb v_op v_i v_r v_s v_a v_b v_fault v_word u_19 v_below1 v_dF1)) (wr := [(a_de, .inr (2, [.ref a_mc, .ref a_ins, .ref a_me, .ref a_d1, .ref a_d2, .ref a_src, .int v_fb, .int v_sb])), (a_ins, .inr (4, [.ref a_mc, .ref a_me, .int v_op, .int v_i, .int v_r, .int v_s, .int v_a, .int v_b])), (a_mc, .inr (5, [.ref a_me, .ref a_ps, .ref a_rg, .int v_fault])), (a_ps, .inr (7, [.long v_word]))]) hP hD [3, 5, 6, 7] [0, 1, 2, 4] [0, 1, 2, 4, 3, 5, 6, 7] rfl rfl (by decide) (by decide) hk9 hFc hB9 ht9 (by decide) rfl
  clear hB9 hk9 hz9 hvm9 ht9 hFc hPc hDc
  generalize H1 = H at hP hS ⊢
  refine lv_aload_n hx hb dX2_giveFirst_22 rfl (lv_at hl 0 rfl) ?_
  refine va_get (D := D) (ci := 2) (v := .ref a_d1) (C := RX2) (T := TX2) (N := 8) hx hb hts in_X2 hown hK hP 0 rfl rfl 3 (by decide) q_0 (fun _ h9 => h9) rfl dX2_giveFirst_23 ?_
  refine lv_iconst (v := 2) hx hb dX2_giveFirst_26 (by decide) ?_
  refine lv_aload_n hx hb dX2_giveFirst_27 rfl (lv_at hl 0 rfl) ?_
  refine va_get (D := D) (ci := 2) (v := .int v_fb) (C := RX2) (T := TX2) (N := 8) hx hb hts in_X2 hown hK hP 0 rfl rfl 6 (by decide) q_3 (fun _ h9 => h9) rfl dX2_giveFirst_28 ?_
  refine lv_imul hx hb dX2_giveFirst_31 ?_
  refine lv_iconst (v := 1) hx hb dX2_giveFirst_32 (by decide) ?_
  refine lv_isub hx hb dX2_giveFirst_33 ?_
  have hPc : va_P D vwCl (wX1_isLongerThan cI cB a_d1 a_dg1 v_below1 v_dF1) H := hP.sub [6, 7] rfl
  have hDc : va_D A (wX1_isLongerThan cI cB a_d1 a_dg1 v_below1 v_dF1) := hD.sub [6, 7] (by decide) rfl
  have hFc := va_free (wc := (wX1_isLongerThan cI cB a_d1 a_dg1 v_below1 v_dF1)) hD hS hA [6, 7] rfl
  refine va_calli (va_runV (As := [.int (((2 * v_fb) - 1))]) (rest := []) ⟨hx, hb, hml, hown, hts⟩ (kX1_isLongerThan l D cI cB a_d1 a_dg1 H.size v_below1 v_dF1 ((2 * v_fb) - 1)) (cwV 1 hts (gd_V wd_244 wd_160 wd_161 wd_138 wd_153) rfl rfl rfl hdX1_isLongerThan ⟨Nat.le_of_ble_eq_true rfl, Nat.le_of_ble_eq_true rfl⟩) (preV_std (ci := 1) (q0 := 0) hPc hK hDc hNW rfl rfl) rfl rfl hl.1 rfl (lv_room (Nat.le_of_ble_eq_true rfl)) dX2_giveFirst_34 ⟨Nat.zero_le _, Nat.zero_le _⟩) hS (fun q _ h => hFc q h) hFc (fun r_34 u_34 t9 H1 locs ht9 hvm9 hw9 hB9 hz9 hk9 hS => ?_)
  have er_34 : r_34 = fX1_isLongerThan ((2 * v_fb) - 1) v_dF1 := hw9
  have zr_34 : r_34 = 0 ∨ r_34 = 1 := by rw [er_34]; exact zX1_isLongerThan _ _
  obtain ⟨hP, hD⟩ := back_std (w1 := (wX1_isLongerThan cI cB a_d1 a_dg1 v_below1 v_dF1)) (w2 := (wX2_giveFirst cI cB a_de a_ins a_mc a_me a_ps a_by a_ks a_rg a_d1 a_dg1 a_d2 a_src v_fb v_sb v_op v_i v_r v_s v_a v_b v_fault v_word u_19 v_below1 v_dF1)) (wr := [(a_de, .inr (2, [.ref a_mc, .ref a_ins, .ref a_me, .ref a_d1, .ref a_d2, .ref a_src, .int v_fb, .int v_sb])), (a_ins, .inr (4, [.ref a_mc, .ref a_me, .int v_op, .int v_i, .int v_r, .int v_s, .int v_a, .int v_b])), (a_mc, .inr (5, [.ref a_me, .ref a_ps, .ref a_rg, .int v_fault])), (a_me, .inr (6, [.ref a_by, .ref a_ks])), (a_ps, .inr (7, [.long v_word])), (a_by, .inl (cB, 8192, .inl u_19))]) hP hD [6, 7] [0, 1, 2, 3, 4, 5] [0, 1, 2, 3, 4, 5, 6, 7] rfl rfl (by decide) (by decide) hk9 hFc hB9 ht9 (by decide) rfl
  clear hB9 hk9 hz9 hvm9 ht9 hFc hPc hDc
  generalize H1 = H at hP hS ⊢
  refine lv_if_eq (tgt := 54) hx hb dX2_giveFirst_37 (by decide) (fun c_37 => ?_) (fun c_37 => ?_)
  · skip
    refine lv_aload_n hx hb dX2_giveFirst_54 rfl (lv_at hl 0 rfl) ?_
    refine va_get (D := D) (ci := 2) (v := .ref a_mc) (C := RX2) (T := TX2) (N := 8) hx hb hts in_X2 hown hK hP 0 rfl rfl 0 (by decide) q_4 (fun _ h9 => h9) rfl dX2_giveFirst_55 ?_
    refine lv_aload_n hx hb dX2_giveFirst_58 rfl (lv_at hl 0 rfl) ?_
    refine va_get (D := D) (ci := 2) (v := .ref a_d1) (C := RX2) (T := TX2) (N := 8) hx hb hts in_X2 hown hK hP 0 rfl rfl 3 (by decide) q_0 (fun _ h9 => h9) rfl dX2_giveFirst_59 ?_
    have hPc : va_P D vwCl (wX1_sign cI cB a_d1 a_dg1 v_below1 v_dF1) H := hP.sub [6, 7] rfl
    have hDc : va_D A (wX1_sign cI cB a_d1 a_dg1 v_below1 v_dF1) := hD.sub [6, 7] (by decide) rfl
    have hFc := va_free (wc := (wX1_sign cI cB a_d1 a_dg1 v_below1 v_dF1)) hD hS hA [6, 7] rfl
    refine va_calli (va_runV (As := []) (rest := [.ref a_mc]) ⟨hx, hb, hml, hown, hts⟩ (kX1_sign l D cI cB a_d1 a_dg1 H.size v_below1 v_dF1 ) (cwV 0 hts (gd_V wd_248 wd_249 wd_250 wd_138 wd_158) rfl rfl rfl hdX1_sign ⟨Nat.le_of_ble_eq_true rfl, Nat.le_of_ble_eq_true rfl⟩) (preV_std (ci := 1) (q0 := 0) hPc hK hDc hNW rfl rfl) rfl rfl hl.1 rfl (lv_room (Nat.le_of_ble_eq_true rfl)) dX2_giveFirst_62 ⟨Nat.zero_le _, Nat.zero_le _⟩) hS (fun q _ h => hFc q h) hFc (fun r_62 u_62 t9 H1 locs ht9 hvm9 hw9 hB9 hz9 hk9 hS => ?_)
    have er_62 : r_62 = fX1_sign v_below1 v_dF1 := hw9
    obtain ⟨hP, hD⟩ := back_std (w1 := (wX1_sign cI cB a_d1 a_dg1 v_below1 v_dF1)) (w2 := (wX2_giveFirst cI cB a_de a_ins a_mc a_me a_ps a_by a_ks a_rg a_d1 a_dg1 a_d2 a_src v_fb v_sb v_op v_i v_r v_s v_a v_b v_fault v_word u_19 v_below1 v_dF1)) (wr := [(a_de, .inr (2, [.ref a_mc, .ref a_ins, .ref a_me, .ref a_d1, .ref a_d2, .ref a_src, .int v_fb, .int v_sb])), (a_ins, .inr (4, [.ref a_mc, .ref a_me, .int v_op, .int v_i, .int v_r, .int v_s, .int v_a, .int v_b])), (a_mc, .inr (5, [.ref a_me, .ref a_ps, .ref a_rg, .int v_fault])), (a_me, .inr (6, [.ref a_by, .ref a_ks])), (a_ps, .inr (7, [.long v_word])), (a_by, .inl (cB, 8192, .inl u_19))]) hP hD [6, 7] [0, 1, 2, 3, 4, 5] [0, 1, 2, 3, 4, 5, 6, 7] rfl rfl (by decide) (by decide) hk9 hFc hB9 ht9 (by decide) rfl
    clear hB9 hk9 hz9 hvm9 ht9 hFc hPc hDc
    generalize H1 = H at hP hS ⊢
    refine lv_i2l hx hb dX2_giveFirst_65 rfl ?_
    have hPc : va_P D vwCl (wX5_conditionByNumber cI cB a_mc a_me a_ps a_rg v_fault v_word) H := hP.sub [2, 4] rfl
    have hDc : va_D A (wX5_conditionByNumber cI cB a_mc a_me a_ps a_rg v_fault v_word) := hD.sub [2, 4] (by decide) rfl
    have hFc := va_free (wc := (wX5_conditionByNumber cI cB a_mc a_me a_ps a_rg v_fault v_word)) hD hS hA [2, 4] rfl
    refine va_callv (va_runV (As := [.long (r_62 : Int32).toInt64]) (rest := []) ⟨hx, hb, hml, hown, hts⟩ (kX5_conditionByNumber l D cI cB a_mc a_me a_ps a_rg H.size v_fault v_word ((r_62 : Int32).toInt64)) (cwV 1 hts (gd_V wd_251 wd_252 wd_253 wd_24 wd_239) rfl rfl rfl hdX5_conditionByNumber ⟨Nat.le_of_ble_eq_true rfl, Nat.le_of_ble_eq_true rfl⟩) (preV_std (ci := 5) (q0 := 0) hPc hK hDc hNW rfl rfl) rfl rfl hl.1 rfl (lv_room (Nat.le_of_ble_eq_true rfl)) dX2_giveFirst_66 ⟨Nat.zero_le _, Nat.zero_le _⟩) hS (fun q _ h => hFc q h) hFc (fun u_66 t9 H1 locs ht9 hvm9 hw9 hB9 hz9 hk9 hS => ?_)
    have eu_66 : u_66 = fX5_conditionByNumber ((r_62 : Int32).toInt64) v_word := hw9
    obtain ⟨hP, hD⟩ := back_std (w1 := (wX5_conditionByNumber cI cB a_mc a_me a_ps a_rg v_fault u_66)) (w2 := (wX2_giveFirst cI cB a_de a_ins a_mc a_me a_ps a_by a_ks a_rg a_d1 a_dg1 a_d2 a_src v_fb v_sb v_op v_i v_r v_s v_a v_b v_fault u_66 u_19 v_below1 v_dF1)) (wr := [(a_de, .inr (2, [.ref a_mc, .ref a_ins, .ref a_me, .ref a_d1, .ref a_d2, .ref a_src, .int v_fb, .int v_sb])), (a_ins, .inr (4, [.ref a_mc, .ref a_me, .int v_op, .int v_i, .int v_r, .int v_s, .int v_a, .int v_b])), (a_me, .inr (6, [.ref a_by, .ref a_ks])), (a_by, .inl (cB, 8192, .inl u_19)), (a_d1, .inr (1, [.ref a_dg1, .int v_below1])), (a_dg1, .inl (cI, 32, .inl v_dF1))]) hP hD [2, 4] [0, 1, 3, 5, 6, 7] [0, 1, 6, 2, 7, 3, 4, 5] rfl rfl (by decide) (by decide) hk9 hFc hB9 ht9 (by decide) rfl
    clear hB9 hk9 hz9 hvm9 ht9 hFc hPc hDc
    generalize H1 = H at hP hS ⊢
    have hf9 : (v_fault, u_66, u_19) = fX2_giveFirst v_fb v_a v_fault v_word v_bF v_below1 v_dF1 := by simp only [fX2_giveFirst, ← eu_19, ← er_34, ← er_62, ← eu_66]; (try simp only [if_pos c_37])
    exact W.vret hx hb hr (fun t9 ht9 hW9 => ⟨⟨(v_fault, u_66, u_19), rfl, hf9, ⟨by rw [ht9]; exact hP, va_K.moved hW9.alike hK, hD⟩⟩, hS.F ht9⟩) hS.2.2 dX2_giveFirst_69
  · skip
    refine lv_aload_n hx hb dX2_giveFirst_40 rfl (lv_at hl 0 rfl) ?_
    refine va_get (D := D) (ci := 2) (v := .ref a_mc) (C := RX2) (T := TX2) (N := 8) hx hb hts in_X2 hown hK hP 0 rfl rfl 0 (by decide) q_4 (fun _ h9 => h9) rfl dX2_giveFirst_41 ?_
    refine lv_bipush (v := 37) hx hb dX2_giveFirst_44 (by decide) ?_
    refine lv_bipush (v := 10) hx hb dX2_giveFirst_46 (by decide) ?_
    have hPc : va_P D vwCl (wX5_overflow cI cB a_mc a_me a_ps a_rg v_fault v_word) H := hP.sub [2, 4] rfl
    have hDc : va_D A (wX5_overflow cI cB a_mc a_me a_ps a_rg v_fault v_word) := hD.sub [2, 4] (by decide) rfl
    have hFc := va_free (wc := (wX5_overflow cI cB a_mc a_me a_ps a_rg v_fault v_word)) hD hS hA [2, 4] rfl
    refine va_callv (va_runV (As := [.int 37, .int 10]) (rest := []) ⟨hx, hb, hml, hown, hts⟩ (kX5_overflow l D cI cB a_mc a_me a_ps a_rg H.size v_fault v_word 37 10) (cwV 2 hts (gd_V wd_245 wd_246 wd_247 wd_24 wd_243) rfl rfl rfl hdX5_overflow ⟨Nat.le_of_ble_eq_true rfl, Nat.le_of_ble_eq_true rfl⟩) (preV_std (ci := 5) (q0 := 0) hPc hK hDc hNW rfl rfl) rfl rfl hl.1 rfl (lv_room (Nat.le_of_ble_eq_true rfl)) dX2_giveFirst_48 ⟨Nat.zero_le _, Nat.zero_le _⟩) hS (fun q _ h => hFc q h) hFc (fun u_48 t9 H1 locs ht9 hvm9 hw9 hB9 hz9 hk9 hS => ?_)
    have eu_48 : u_48 = fX5_overflow 37 10 v_fault v_word := hw9
    obtain ⟨hP, hD⟩ := back_std (w1 := (wX5_overflow cI cB a_mc a_me a_ps a_rg u_48.1 u_48.2)) (w2 := (wX2_giveFirst cI cB a_de a_ins a_mc a_me a_ps a_by a_ks a_rg a_d1 a_dg1 a_d2 a_src v_fb v_sb v_op v_i v_r v_s v_a v_b u_48.1 u_48.2 u_19 v_below1 v_dF1)) (wr := [(a_de, .inr (2, [.ref a_mc, .ref a_ins, .ref a_me, .ref a_d1, .ref a_d2, .ref a_src, .int v_fb, .int v_sb])), (a_ins, .inr (4, [.ref a_mc, .ref a_me, .int v_op, .int v_i, .int v_r, .int v_s, .int v_a, .int v_b])), (a_me, .inr (6, [.ref a_by, .ref a_ks])), (a_by, .inl (cB, 8192, .inl u_19)), (a_d1, .inr (1, [.ref a_dg1, .int v_below1])), (a_dg1, .inl (cI, 32, .inl v_dF1))]) hP hD [2, 4] [0, 1, 3, 5, 6, 7] [0, 1, 6, 2, 7, 3, 4, 5] rfl rfl (by decide) (by decide) hk9 hFc hB9 ht9 (by decide) rfl
    clear hB9 hk9 hz9 hvm9 ht9 hFc hPc hDc
    generalize H1 = H at hP hS ⊢
    refine lv_goto (tgt := 69) hx hb dX2_giveFirst_51 (by decide) ?_
    have hf9 : (u_48.1, u_48.2, u_19) = fX2_giveFirst v_fb v_a v_fault v_word v_bF v_below1 v_dF1 := by simp only [fX2_giveFirst, ← eu_19, ← er_34, ← eu_48]; (try simp only [if_neg c_37])
    exact W.vret hx hb hr (fun t9 ht9 hW9 => ⟨⟨(u_48.1, u_48.2, u_19), rfl, hf9, ⟨by rw [ht9]; exact hP, va_K.moved hW9.alike hK, hD⟩⟩, hS.F ht9⟩) hS.2.2 dX2_giveFirst_69
theorem hdX2_giveFirst : yX2_giveFirst.cls = RX2 ∧ yX2_giveFirst.cls ≠ "java/lang/invoke/MethodHandle" ∧ yX2_giveFirst.cls ≠ "java/lang/invoke/VarHandle" ∧ (parseMethodDescriptor yX2_giveFirst.desc).map (fun d => d.parameters.length) = some 0 := by decide +kernel
noncomputable def fX2_combine (v_fb : Int32) (v_sb : Int32) (v_op : Int32) (v_r : Int32) (v_s : Int32) (v_a : Int32) (v_b : Int32) (v_fault : Int32) (v_word : Int64) (v_bF : (Nat → Int32)) (v_kF : (Nat → Int32)) (v_below1 : Int32) (v_dF1 : (Nat → Int32)) (v_below2 : Int32) (v_dF2 : (Nat → Int32)) : (Int32 × Int32 × Int32 × Int64 × (Nat → Int32) × Int32 × (Nat → Int32) × Int32 × (Nat → Int32)) :=
  let m_18 : Int32 := (if v_op = 249 then (1) else (0))
  let m_37 : Int32 := (if v_op = 248 then (1) else (0))
  let m_48 : Int32 := (if m_18 = 0 then (1) else (0))
  let u_48 := fX2_demandBoth m_48 v_fb v_sb v_r v_s v_a v_b v_fault v_word v_kF
  let u_53 := fX2_takeBoth m_37 u_48.1 u_48.2.1 v_a v_b u_48.2.2 v_bF v_below1 v_dF1 v_below2 v_dF2
  let r_60 := fX5_fine u_53.1
  if r_60 = 0 then ((u_48.1, u_48.2.1, u_53.1, v_word, v_bF, u_53.2.1, u_53.2.2.1, u_53.2.2.2.1, u_53.2.2.2.2)) else (let m_79 : (Int32 × (Nat → Int32)) := (if m_37 = 0 then ((u_53.2.1, u_53.2.2.1)) else (let u_76 := fX1_setNumber 0 u_53.2.1 u_53.2.2.1; (u_76.1, u_76.2))); let m_118 : Int32 := (if m_18 = 0 then (if v_op = 251 then (let m_115 : Int32 := (if u_53.2.2.2.1 = 0 then (1) else (0)); m_115) else (u_53.2.2.2.1)) else (let m_115 : Int32 := (if u_53.2.2.2.1 = 0 then (1) else (0)); m_115)); let u_126 := fX1_add m_79.1 m_79.2 m_118 u_53.2.2.2.2; if m_18 = 0 then (let u_152 := fX2_giveFirst u_48.1 v_a u_53.1 v_word v_bF u_126.1 u_126.2; (u_48.1, u_48.2.1, u_152.1, u_152.2.1, u_152.2.2, u_126.1, u_126.2, m_118, u_53.2.2.2.2)) else (let r_141 := fX1_sign u_126.1 u_126.2; let u_145 := fX5_conditionByNumber ((r_141 : Int32).toInt64) v_word; (u_48.1, u_48.2.1, u_53.1, u_145, v_bF, u_126.1, u_126.2, m_118, u_53.2.2.2.2)))
abbrev wX2_combine (cI cB : ClassId) (a_de a_ins a_mc a_me a_ps a_by a_ks a_rg a_d1 a_dg1 a_d2 a_dg2 a_src : Nat) (v_fb : Int32) (v_sb : Int32) (v_op : Int32) (v_i : Int32) (v_r : Int32) (v_s : Int32) (v_a : Int32) (v_b : Int32) (v_fault : Int32) (v_word : Int64) (v_bF : (Nat → Int32)) (v_kF : (Nat → Int32)) (v_below1 : Int32) (v_dF1 : (Nat → Int32)) (v_below2 : Int32) (v_dF2 : (Nat → Int32)) : va_W := [(a_de, .inr (2, [.ref a_mc, .ref a_ins, .ref a_me, .ref a_d1, .ref a_d2, .ref a_src, .int v_fb, .int v_sb])), (a_ins, .inr (4, [.ref a_mc, .ref a_me, .int v_op, .int v_i, .int v_r, .int v_s, .int v_a, .int v_b])), (a_mc, .inr (5, [.ref a_me, .ref a_ps, .ref a_rg, .int v_fault])), (a_me, .inr (6, [.ref a_by, .ref a_ks])), (a_ps, .inr (7, [.long v_word])), (a_by, .inl (cB, 8192, .inl v_bF)), (a_ks, .inl (cI, 4, .inl v_kF)), (a_d1, .inr (1, [.ref a_dg1, .int v_below1])), (a_dg1, .inl (cI, 32, .inl v_dF1)), (a_d2, .inr (1, [.ref a_dg2, .int v_below2])), (a_dg2, .inl (cI, 32, .inl v_dF2))]
abbrev rmX2_combine : Room := { frames := 4, cells := 0, slots := 0, locals := 84 }
abbrev qX2_combine (D : va_G) (cI cB : ClassId) (a_de a_ins a_mc a_me a_ps a_by a_ks a_rg a_d1 a_dg1 a_d2 a_dg2 a_src : Nat) (v_fb : Int32) (v_sb : Int32) (v_op : Int32) (v_i : Int32) (v_r : Int32) (v_s : Int32) (v_a : Int32) (v_b : Int32) (v_fault : Int32) (v_word : Int64) (v_bF : (Nat → Int32)) (v_kF : (Nat → Int32)) (v_below1 : Int32) (v_dF1 : (Nat → Int32)) (v_below2 : Int32) (v_dF2 : (Nat → Int32)) : (Nat → Prop) → Array Value → State → Outcome → State → Prop := fun A9 => va_Qv (fun (u9 : (Int32 × Int32 × Int32 × Int64 × (Nat → Int32) × Int32 × (Nat → Int32) × Int32 × (Nat → Int32))) => u9 = fX2_combine v_fb v_sb v_op v_r v_s v_a v_b v_fault v_word v_bF v_kF v_below1 v_dF1 v_below2 v_dF2) (fun u9 t9 => atW D (TYS cI cB) A9 (wX2_combine cI cB a_de a_ins a_mc a_me a_ps a_by a_ks a_rg a_d1 a_dg1 a_d2 a_dg2 a_src u9.1 u9.2.1 v_op v_i v_r v_s v_a v_b u9.2.2.1 u9.2.2.2.1 u9.2.2.2.2.1 v_kF u9.2.2.2.2.2.1 u9.2.2.2.2.2.2.1 u9.2.2.2.2.2.2.2.1 u9.2.2.2.2.2.2.2.2) t9) A9
set_option maxHeartbeats 4000000 in
set_option maxRecDepth 100000 in
theorem kX2_combine (l : Launch) (D : va_G) (cI cB : ClassId) (a_de a_ins a_mc a_me a_ps a_by a_ks a_rg a_d1 a_dg1 a_d2 a_dg2 a_src : Nat) (sz : Nat) (v_fb : Int32) (v_sb : Int32) (v_op : Int32) (v_i : Int32) (v_r : Int32) (v_s : Int32) (v_a : Int32) (v_b : Int32) (v_fault : Int32) (v_word : Int64) (v_bF : (Nat → Int32)) (v_kF : (Nat → Int32)) (v_below1 : Int32) (v_dF1 : (Nat → Int32)) (v_below2 : Int32) (v_dF2 : (Nat → Int32)) (hz1 : v_below1 = 0 ∨ v_below1 = 1) (hz2 : v_below2 = 0 ∨ v_below2 = 1) : MetW l yX2_combine (WK yX2_combine cX2_combine 3 none) rmX2_combine D (TYS cI cB) (wX2_combine cI cB a_de a_ins a_mc a_me a_ps a_by a_ks a_rg a_d1 a_dg1 a_d2 a_dg2 a_src v_fb v_sb v_op v_i v_r v_s v_a v_b v_fault v_word v_bF v_kF v_below1 v_dF1 v_below2 v_dF2) sz [.ref a_de] (qX2_combine D cI cB a_de a_ins a_mc a_me a_ps a_by a_ks a_rg a_d1 a_dg1 a_d2 a_dg2 a_src v_fb v_sb v_op v_i v_r v_s v_a v_b v_fault v_word v_bF v_kF v_below1 v_dF1 v_below2 v_dF2) 0 0 := by
  refine met_std (by decide) rfl (Nat.le_of_ble_eq_true rfl) ?_
  intro p e s m below meth c A ls H hx hb hr hml hown hts hlocks hA hP hK hD hS hNW hl
  have hl : lv_has ls 3 [(0, .ref a_de)] := hl
  have q_0 := hts _ (List.mem_cons_of_mem _ wd_189)
  have q_1 := hts _ (List.mem_cons_of_mem _ wd_188)
  have q_2 := hts _ (List.mem_cons_of_mem _ wd_193)
  have q_3 := hts _ (List.mem_cons_of_mem _ wd_194)
  have n_0 := hNW.f (A := ([.ref a_de] : List Value).toArray) ("MainframeCore$Decimals", 120, "MainframeCore$Instruction", "operation", "I", "MainframeCore") (by decide +kernel)
  have n_1 := hNW.f (A := ([.ref a_de] : List Value).toArray) ("MainframeCore$Decimals", 81, "MainframeCore$Decimal", "below", "Z", "MainframeCore") (by decide +kernel)
  refine lv_aload_n hx hb dX2_combine_0 rfl (lv_at hl 0 rfl) ?_
  refine va_get (D := D) (ci := 2) (v := .ref a_ins) (C := RX2) (T := TX2) (N := 8) hx hb hts in_X2 hown hK hP 0 rfl rfl 1 (by decide) q_0 (fun _ h9 => h9) rfl dX2_combine_1 ?_
  refine va_getN (D := D) (ci := 4) (v := .int v_op) (C := RX4) (T := TX4) (N := 8) hx hb hts in_X4 hown hK hP 1 rfl rfl 2 (by decide) n_0 (fun _ h9 => h9) rfl dX2_combine_4 ?_
  refine lv_sipush (v := 249) hx hb dX2_combine_7 (by decide) ?_
  have J_18 : ∀ (m_18 : Int32), m_18 = (if v_op = 249 then (1) else (0)) → ∀ (H : Heap) (locs : List Loc), va_P D vwCl (wX2_combine cI cB a_de a_ins a_mc a_me a_ps a_by a_ks a_rg a_d1 a_dg1 a_d2 a_dg2 a_src v_fb v_sb v_op v_i v_r v_s v_a v_b v_fault v_word v_bF v_kF v_below1 v_dF1 v_below2 v_dF2) H → va_D A (wX2_combine cI cB a_de a_ins a_mc a_me a_ps a_by a_ks a_rg a_d1 a_dg1 a_d2 a_dg2 a_src v_fb v_sb v_op v_i v_r v_s v_a v_b v_fault v_word v_bF v_kF v_below1 v_dF1 v_below2 v_dF2) → va_S A s.heap H locs → ∀ (ls : Array Slot), lv_has ls 3 [(0, .ref a_de)] → W p l e rmX2_combine s m ([.ref a_de] : List Value).toArray below meth c H locs 0 0 (MQ below (qX2_combine D cI cB a_de a_ins a_mc a_me a_ps a_by a_ks a_rg a_d1 a_dg1 a_d2 a_dg2 a_src v_fb v_sb v_op v_i v_r v_s v_a v_b v_fault v_word v_bF v_kF v_below1 v_dF1 v_below2 v_dF2 A) ([.ref a_de] : List Value).toArray s 0 0 A) (F0 m 18 ls [.int m_18]) := by
    intro m_18 em_18 H locs hP hD hS ls hl
    try dsimp only at em_18
    have zm_18_0 : m_18 = 0 ∨ m_18 = 1 := by rw [em_18]; (try dsimp only); (repeat' split) <;> first | exact Or.inl rfl | exact Or.inr rfl
    refine lv_istore_n (lv' := [(1, .int m_18), (0, .ref a_de)]) hx hb dX2_combine_18 rfl hl (by decide) rfl (fun ls hl => ?_)
    refine lv_aload_n hx hb dX2_combine_19 rfl (lv_at hl 1 rfl) ?_
    refine va_get (D := D) (ci := 2) (v := .ref a_ins) (C := RX2) (T := TX2) (N := 8) hx hb hts in_X2 hown hK hP 0 rfl rfl 1 (by decide) q_0 (fun _ h9 => h9) rfl dX2_combine_20 ?_
    refine va_getN (D := D) (ci := 4) (v := .int v_op) (C := RX4) (T := TX4) (N := 8) hx hb hts in_X4 hown hK hP 1 rfl rfl 2 (by decide) n_0 (fun _ h9 => h9) rfl dX2_combine_23 ?_
    refine lv_sipush (v := 248) hx hb dX2_combine_26 (by decide) ?_
    have J_37 : ∀ (m_37 : Int32), m_37 = (if v_op = 248 then (1) else (0)) → ∀ (H : Heap) (locs : List Loc), va_P D vwCl (wX2_combine cI cB a_de a_ins a_mc a_me a_ps a_by a_ks a_rg a_d1 a_dg1 a_d2 a_dg2 a_src v_fb v_sb v_op v_i v_r v_s v_a v_b v_fault v_word v_bF v_kF v_below1 v_dF1 v_below2 v_dF2) H → va_D A (wX2_combine cI cB a_de a_ins a_mc a_me a_ps a_by a_ks a_rg a_d1 a_dg1 a_d2 a_dg2 a_src v_fb v_sb v_op v_i v_r v_s v_a v_b v_fault v_word v_bF v_kF v_below1 v_dF1 v_below2 v_dF2) → va_S A s.heap H locs → ∀ (ls : Array Slot), lv_has ls 3 [(0, .ref a_de), (1, .int m_18)] → W p l e rmX2_combine s m ([.ref a_de] : List Value).toArray below meth c H locs 0 0 (MQ below (qX2_combine D cI cB a_de a_ins a_mc a_me a_ps a_by a_ks a_rg a_d1 a_dg1 a_d2 a_dg2 a_src v_fb v_sb v_op v_i v_r v_s v_a v_b v_fault v_word v_bF v_kF v_below1 v_dF1 v_below2 v_dF2 A) ([.ref a_de] : List Value).toArray s 0 0 A) (F0 m 37 ls [.int m_37]) := by
      intro m_37 em_37 H locs hP hD hS ls hl
      try dsimp only at em_37
      have zm_37_0 : m_37 = 0 ∨ m_37 = 1 := by rw [em_37]; (try dsimp only); (repeat' split) <;> first | exact Or.inl rfl | exact Or.inr rfl
      refine lv_istore_n (lv' := [(2, .int m_37), (0, .ref a_de), (1, .int m_18)]) hx hb dX2_combine_37 rfl hl (by decide) rfl (fun ls hl => ?_)
      refine lv_aload_n hx hb dX2_combine_38 rfl (lv_at hl 1 rfl) ?_
      refine lv_iload_n hx hb dX2_combine_39 rfl (lv_at hl 2 rfl) ?_
      have J_48 : ∀ (m_48 : Int32), m_48 = (if m_18 = 0 then (1) else (0)) → ∀ (H : Heap) (locs : List Loc), va_P D vwCl (wX2_combine cI cB a_de a_ins a_mc a_me a_ps a_by a_ks a_rg a_d1 a_dg1 a_d2 a_dg2 a_src v_fb v_sb v_op v_i v_r v_s v_a v_b v_fault v_word v_bF v_kF v_below1 v_dF1 v_below2 v_dF2) H → va_D A (wX2_combine cI cB a_de a_ins a_mc a_me a_ps a_by a_ks a_rg a_d1 a_dg1 a_d2 a_dg2 a_src v_fb v_sb v_op v_i v_r v_s v_a v_b v_fault v_word v_bF v_kF v_below1 v_dF1 v_below2 v_dF2) → va_S A s.heap H locs → ∀ (ls : Array Slot), lv_has ls 3 [(0, .ref a_de), (1, .int m_18), (2, .int m_37)] → W p l e rmX2_combine s m ([.ref a_de] : List Value).toArray below meth c H locs 0 0 (MQ below (qX2_combine D cI cB a_de a_ins a_mc a_me a_ps a_by a_ks a_rg a_d1 a_dg1 a_d2 a_dg2 a_src v_fb v_sb v_op v_i v_r v_s v_a v_b v_fault v_word v_bF v_kF v_below1 v_dF1 v_below2 v_dF2 A) ([.ref a_de] : List Value).toArray s 0 0 A) (F0 m 48 ls [.int m_48, .ref a_de]) := by
        intro m_48 em_48 H locs hP hD hS ls hl
        try dsimp only at em_48
        have zm_48_0 : m_48 = 0 ∨ m_48 = 1 := by rw [em_48]; (try dsimp only); (repeat' split) <;> first | exact Or.inl rfl | exact Or.inr rfl
        have hPc : va_P D vwCl (wX2_demandBoth cI cB a_de a_ins a_mc a_me a_ps a_by a_ks a_rg a_d1 a_d2 a_src v_fb v_sb v_op v_i v_r v_s v_a v_b v_fault v_word v_kF) H := hP.sub [0, 1, 2, 3, 4, 6] rfl
        have hDc : va_D A (wX2_demandBoth cI cB a_de a_ins a_mc a_me a_ps a_by a_ks a_rg a_d1 a_d2 a_src v_fb v_sb v_op v_i v_r v_s v_a v_b v_fault v_word v_kF) := hD.sub [0, 1, 2, 3, 4, 6] (by decide) rfl
        have hFc := va_free (wc := (wX2_demandBoth cI cB a_de a_ins a_mc a_me a_ps a_by a_ks a_rg a_d1 a_d2 a_src v_fb v_sb v_op v_i v_r v_s v_a v_b v_fault v_word v_kF)) hD hS hA [0, 1, 2, 3, 4, 6] rfl
        refine va_callv (va_runV (As := [.int m_48]) (rest := []) ⟨hx, hb, hml, hown, hts⟩ (kX2_demandBoth l D cI cB a_de a_ins a_mc a_me a_ps a_by a_ks a_rg a_d1 a_d2 a_src H.size v_fb v_sb v_op v_i v_r v_s v_a v_b v_fault v_word v_kF m_48) (cwV 1 hts (gd_V wd_226 wd_227 wd_228 wd_225 wd_219) rfl rfl rfl hdX2_demandBoth ⟨Nat.le_of_ble_eq_true rfl, Nat.le_of_ble_eq_true rfl⟩) (preV_std (ci := 2) (q0 := 0) hPc hK hDc hNW rfl rfl) rfl rfl hl.1 rfl (lv_room (Nat.le_of_ble_eq_true rfl)) dX2_combine_48 ⟨Nat.zero_le _, Nat.zero_le _⟩) hS (fun q _ h => hFc q h) hFc (fun u_48 t9 H1 locs ht9 hvm9 hw9 hB9 hz9 hk9 hS => ?_)
        have eu_48 : u_48 = fX2_demandBoth m_48 v_fb v_sb v_r v_s v_a v_b v_fault v_word v_kF := hw9
        obtain ⟨hP, hD⟩ := back_std (w1 := (wX2_demandBoth cI cB a_de a_ins a_mc a_me a_ps a_by a_ks a_rg a_d1 a_d2 a_src u_48.1 u_48.2.1 v_op v_i v_r v_s v_a v_b u_48.2.2 v_word v_kF)) (w2 := (wX2_combine cI cB a_de a_ins a_mc a_me a_ps a_by a_ks a_rg a_d1 a_dg1 a_d2 a_dg2 a_src u_48.1 u_48.2.1 v_op v_i v_r v_s v_a v_b u_48.2.2 v_word v_bF v_kF v_below1 v_dF1 v_below2 v_dF2)) (wr := [(a_by, .inl (cB, 8192, .inl v_bF)), (a_d1, .inr (1, [.ref a_dg1, .int v_below1])), (a_dg1, .inl (cI, 32, .inl v_dF1)), (a_d2, .inr (1, [.ref a_dg2, .int v_below2])), (a_dg2, .inl (cI, 32, .inl v_dF2))]) hP hD [0, 1, 2, 3, 4, 6] [5, 7, 8, 9, 10] [5, 6, 7, 8, 9, 0, 10, 1, 2, 3, 4] rfl rfl (by decide) (by decide) hk9 hFc hB9 ht9 (by decide) rfl
        clear hB9 hk9 hz9 hvm9 ht9 hFc hPc hDc
        generalize H1 = H at hP hS ⊢
        refine lv_aload_n hx hb dX2_combine_51 rfl (lv_at hl 0 rfl) ?_
        refine lv_iload_n hx hb dX2_combine_52 rfl (lv_at hl 2 rfl) ?_
        have hPc : va_P D vwCl (wX2_takeBoth cI cB a_de a_ins a_mc a_me a_ps a_by a_ks a_rg a_d1 a_dg1 a_d2 a_dg2 a_src u_48.1 u_48.2.1 v_op v_i v_r v_s v_a v_b u_48.2.2 v_bF v_below1 v_dF1 v_below2 v_dF2) H := hP.sub [0, 1, 2, 3, 5, 7, 8, 9, 10] rfl
        have hDc : va_D A (wX2_takeBoth cI cB a_de a_ins a_mc a_me a_ps a_by a_ks a_rg a_d1 a_dg1 a_d2 a_dg2 a_src u_48.1 u_48.2.1 v_op v_i v_r v_s v_a v_b u_48.2.2 v_bF v_below1 v_dF1 v_below2 v_dF2) := hD.sub [0, 1, 2, 3, 5, 7, 8, 9, 10] (by decide) rfl
        have hFc := va_free (wc := (wX2_takeBoth cI cB a_de a_ins a_mc a_me a_ps a_by a_ks a_rg a_d1 a_dg1 a_d2 a_dg2 a_src u_48.1 u_48.2.1 v_op v_i v_r v_s v_a v_b u_48.2.2 v_bF v_below1 v_dF1 v_below2 v_dF2)) hD hS hA [0, 1, 2, 3, 5, 7, 8, 9, 10] rfl
        refine va_callv (va_runV (As := [.int m_37]) (rest := []) ⟨hx, hb, hml, hown, hts⟩ (kX2_takeBoth l D cI cB a_de a_ins a_mc a_me a_ps a_by a_ks a_rg a_d1 a_dg1 a_d2 a_dg2 a_src H.size u_48.1 u_48.2.1 v_op v_i v_r v_s v_a v_b u_48.2.2 v_bF v_below1 v_dF1 v_below2 v_dF2 m_37) (cwV 1 hts (gd_V wd_255 wd_256 wd_257 wd_225 wd_235) rfl rfl rfl hdX2_takeBoth ⟨Nat.le_of_ble_eq_true rfl, Nat.le_of_ble_eq_true rfl⟩) (preV_std (ci := 2) (q0 := 0) hPc hK hDc hNW rfl rfl) rfl rfl hl.1 rfl (lv_room (Nat.le_of_ble_eq_true rfl)) dX2_combine_53 ⟨Nat.zero_le _, Nat.zero_le _⟩) hS (fun q _ h => hFc q h) hFc (fun u_53 t9 H1 locs ht9 hvm9 hw9 hB9 hz9 hk9 hS => ?_)
        have eu_53 : u_53 = fX2_takeBoth m_37 u_48.1 u_48.2.1 v_a v_b u_48.2.2 v_bF v_below1 v_dF1 v_below2 v_dF2 := hw9
        obtain ⟨hP, hD⟩ := back_std (w1 := (wX2_takeBoth cI cB a_de a_ins a_mc a_me a_ps a_by a_ks a_rg a_d1 a_dg1 a_d2 a_dg2 a_src u_48.1 u_48.2.1 v_op v_i v_r v_s v_a v_b u_53.1 v_bF u_53.2.1 u_53.2.2.1 u_53.2.2.2.1 u_53.2.2.2.2)) (w2 := (wX2_combine cI cB a_de a_ins a_mc a_me a_ps a_by a_ks a_rg a_d1 a_dg1 a_d2 a_dg2 a_src u_48.1 u_48.2.1 v_op v_i v_r v_s v_a v_b u_53.1 v_word v_bF v_kF u_53.2.1 u_53.2.2.1 u_53.2.2.2.1 u_53.2.2.2.2)) (wr := [(a_ps, .inr (7, [.long v_word])), (a_ks, .inl (cI, 4, .inl v_kF))]) hP hD [0, 1, 2, 3, 5, 7, 8, 9, 10] [4, 6] [2, 3, 4, 5, 0, 6, 1, 7, 8, 9, 10] rfl rfl (by decide) (by decide) hk9 hFc hB9 ht9 (by decide) rfl
        clear hB9 hk9 hz9 hvm9 ht9 hFc hPc hDc
        generalize H1 = H at hP hS ⊢
        refine lv_aload_n hx hb dX2_combine_56 rfl (lv_at hl 0 rfl) ?_
        refine va_get (D := D) (ci := 2) (v := .ref a_mc) (C := RX2) (T := TX2) (N := 8) hx hb hts in_X2 hown hK hP 0 rfl rfl 0 (by decide) q_1 (fun _ h9 => h9) rfl dX2_combine_57 ?_
        have hPc : va_P D vwCl (wX5_fine cI cB a_mc a_me a_ps a_rg u_53.1) H := hP.sub [2] rfl
        have hDc : va_D A (wX5_fine cI cB a_mc a_me a_ps a_rg u_53.1) := hD.sub [2] (by decide) rfl
        have hFc := va_free (wc := (wX5_fine cI cB a_mc a_me a_ps a_rg u_53.1)) hD hS hA [2] rfl
        refine va_calli (va_runV (As := []) (rest := []) ⟨hx, hb, hml, hown, hts⟩ (kX5_fine l D cI cB a_mc a_me a_ps a_rg H.size u_53.1 ) (cwV 0 hts (gd_V wd_199 wd_73 wd_74 wd_24 wd_66) rfl rfl rfl hdX5_fine ⟨Nat.le_of_ble_eq_true rfl, Nat.le_of_ble_eq_true rfl⟩) (preV_std (ci := 5) (q0 := 0) hPc hK hDc hNW rfl rfl) rfl rfl hl.1 rfl (lv_room (Nat.le_of_ble_eq_true rfl)) dX2_combine_60 ⟨Nat.zero_le _, Nat.zero_le _⟩) hS (fun q _ h => hFc q h) hFc (fun r_60 u_60 t9 H1 locs ht9 hvm9 hw9 hB9 hz9 hk9 hS => ?_)
        have er_60 : r_60 = fX5_fine u_53.1 := hw9
        have zr_60 : r_60 = 0 ∨ r_60 = 1 := by rw [er_60]; exact zX5_fine _
        obtain ⟨hP, hD⟩ := back_std (w1 := (wX5_fine cI cB a_mc a_me a_ps a_rg u_53.1)) (w2 := (wX2_combine cI cB a_de a_ins a_mc a_me a_ps a_by a_ks a_rg a_d1 a_dg1 a_d2 a_dg2 a_src u_48.1 u_48.2.1 v_op v_i v_r v_s v_a v_b u_53.1 v_word v_bF v_kF u_53.2.1 u_53.2.2.1 u_53.2.2.2.1 u_53.2.2.2.2)) (wr := [(a_de, .inr (2, [.ref a_mc, .ref a_ins, .ref a_me, .ref a_d1, .ref a_d2, .ref a_src, .int u_48.1, .int u_48.2.1])), (a_ins, .inr (4, [.ref a_mc, .ref a_me, .int v_op, .int v_i, .int v_r, .int v_s, .int v_a, .int v_b])), (a_me, .inr (6, [.ref a_by, .ref a_ks])), (a_ps, .inr (7, [.long v_word])), (a_by, .inl (cB, 8192, .inl v_bF)), (a_ks, .inl (cI, 4, .inl v_kF)), (a_d1, .inr (1, [.ref a_dg1, .int u_53.2.1])), (a_dg1, .inl (cI, 32, .inl u_53.2.2.1)), (a_d2, .inr (1, [.ref a_dg2, .int u_53.2.2.2.1])), (a_dg2, .inl (cI, 32, .inl u_53.2.2.2.2))]) hP hD [2] [0, 1, 3, 4, 5, 6, 7, 8, 9, 10] [0, 1, 10, 2, 3, 4, 5, 6, 7, 8, 9] rfl rfl (by decide) (by decide) hk9 hFc hB9 ht9 (by decide) rfl
        clear hB9 hk9 hz9 hvm9 ht9 hFc hPc hDc
        generalize H1 = H at hP hS ⊢
        refine lv_if_ne (tgt := 67) hx hb dX2_combine_63 (by decide) (fun c_63 => ?_) (fun c_63 => ?_)
        · skip
          refine lv_iload_n hx hb dX2_combine_67 rfl (lv_at hl 2 rfl) ?_
          have J_79 : ∀ (m_79 : (Int32 × (Nat → Int32))), m_79 = (if m_37 = 0 then ((u_53.2.1, u_53.2.2.1)) else (let u_76 := fX1_setNumber 0 u_53.2.1 u_53.2.2.1; (u_76.1, u_76.2))) → ∀ (H : Heap) (locs : List Loc), va_P D vwCl (wX2_combine cI cB a_de a_ins a_mc a_me a_ps a_by a_ks a_rg a_d1 a_dg1 a_d2 a_dg2 a_src u_48.1 u_48.2.1 v_op v_i v_r v_s v_a v_b u_53.1 v_word v_bF v_kF m_79.1 m_79.2 u_53.2.2.2.1 u_53.2.2.2.2) H → va_D A (wX2_combine cI cB a_de a_ins a_mc a_me a_ps a_by a_ks a_rg a_d1 a_dg1 a_d2 a_dg2 a_src u_48.1 u_48.2.1 v_op v_i v_r v_s v_a v_b u_53.1 v_word v_bF v_kF m_79.1 m_79.2 u_53.2.2.2.1 u_53.2.2.2.2) → va_S A s.heap H locs → ∀ (ls : Array Slot), lv_has ls 3 [(0, .ref a_de), (1, .int m_18), (2, .int m_37)] → W p l e rmX2_combine s m ([.ref a_de] : List Value).toArray below meth c H locs 0 0 (MQ below (qX2_combine D cI cB a_de a_ins a_mc a_me a_ps a_by a_ks a_rg a_d1 a_dg1 a_d2 a_dg2 a_src v_fb v_sb v_op v_i v_r v_s v_a v_b v_fault v_word v_bF v_kF v_below1 v_dF1 v_below2 v_dF2 A) ([.ref a_de] : List Value).toArray s 0 0 A) (F0 m 79 ls []) := by
            intro m_79 em_79 H locs hP hD hS ls hl
            try dsimp only at em_79
            refine lv_iload_n hx hb dX2_combine_79 rfl (lv_at hl 1 rfl) ?_
            have J_118 : ∀ (m_118 : Int32), m_118 = (if m_18 = 0 then (if v_op = 251 then (let m_115 : Int32 := (if u_53.2.2.2.1 = 0 then (1) else (0)); m_115) else (u_53.2.2.2.1)) else (let m_115 : Int32 := (if u_53.2.2.2.1 = 0 then (1) else (0)); m_115)) → ∀ (H : Heap) (locs : List Loc), va_P D vwCl (wX2_combine cI cB a_de a_ins a_mc a_me a_ps a_by a_ks a_rg a_d1 a_dg1 a_d2 a_dg2 a_src u_48.1 u_48.2.1 v_op v_i v_r v_s v_a v_b u_53.1 v_word v_bF v_kF m_79.1 m_79.2 m_118 u_53.2.2.2.2) H → va_D A (wX2_combine cI cB a_de a_ins a_mc a_me a_ps a_by a_ks a_rg a_d1 a_dg1 a_d2 a_dg2 a_src u_48.1 u_48.2.1 v_op v_i v_r v_s v_a v_b u_53.1 v_word v_bF v_kF m_79.1 m_79.2 m_118 u_53.2.2.2.2) → va_S A s.heap H locs → ∀ (ls : Array Slot), lv_has ls 3 [(0, .ref a_de), (1, .int m_18), (2, .int m_37)] → W p l e rmX2_combine s m ([.ref a_de] : List Value).toArray below meth c H locs 0 0 (MQ below (qX2_combine D cI cB a_de a_ins a_mc a_me a_ps a_by a_ks a_rg a_d1 a_dg1 a_d2 a_dg2 a_src v_fb v_sb v_op v_i v_r v_s v_a v_b v_fault v_word v_bF v_kF v_below1 v_dF1 v_below2 v_dF2 A) ([.ref a_de] : List Value).toArray s 0 0 A) (F0 m 118 ls []) := by
              intro m_118 em_118 H locs hP hD hS ls hl
              try dsimp only at em_118
              refine lv_aload_n hx hb dX2_combine_118 rfl (lv_at hl 0 rfl) ?_
              refine va_get (D := D) (ci := 2) (v := .ref a_d1) (C := RX2) (T := TX2) (N := 8) hx hb hts in_X2 hown hK hP 0 rfl rfl 3 (by decide) q_2 (fun _ h9 => h9) rfl dX2_combine_119 ?_
              refine lv_aload_n hx hb dX2_combine_122 rfl (lv_at hl 0 rfl) ?_
              refine va_get (D := D) (ci := 2) (v := .ref a_d2) (C := RX2) (T := TX2) (N := 8) hx hb hts in_X2 hown hK hP 0 rfl rfl 4 (by decide) q_3 (fun _ h9 => h9) rfl dX2_combine_123 ?_
              have hPc : va_P D vwCl (wX1_add cI cB a_d1 a_dg1 a_d2 a_dg2 m_79.1 m_79.2 m_118 u_53.2.2.2.2) H := hP.sub [7, 8, 9, 10] rfl
              have hDc : va_D A (wX1_add cI cB a_d1 a_dg1 a_d2 a_dg2 m_79.1 m_79.2 m_118 u_53.2.2.2.2) := hD.sub [7, 8, 9, 10] (by decide) rfl
              have hFc := va_free (wc := (wX1_add cI cB a_d1 a_dg1 a_d2 a_dg2 m_79.1 m_79.2 m_118 u_53.2.2.2.2)) hD hS hA [7, 8, 9, 10] rfl
              refine va_callv (va_runV (As := [.ref a_d2]) (rest := []) ⟨hx, hb, hml, hown, hts⟩ (kX1_add l D cI cB a_d1 a_dg1 a_d2 a_dg2 H.size m_79.1 m_79.2 m_118 u_53.2.2.2.2  (by rw [em_118]; (repeat' split) <;> first | exact Or.inl rfl | exact Or.inr rfl | (rw [eu_53]; exact zb_tb2 hz2))) (cwV 1 hts (gd_V wd_258 wd_259 wd_260 wd_138 wd_183) rfl rfl rfl hdX1_add ⟨Nat.le_of_ble_eq_true rfl, Nat.le_of_ble_eq_true rfl⟩) (preV_std (ci := 1) (q0 := 0) hPc hK hDc hNW rfl rfl) rfl rfl hl.1 rfl (lv_room (Nat.le_of_ble_eq_true rfl)) dX2_combine_126 ⟨Nat.zero_le _, Nat.zero_le _⟩) hS (fun q _ h => hFc q h) hFc (fun u_126 t9 H1 locs ht9 hvm9 hw9 hB9 hz9 hk9 hS => ?_)
              have eu_126 : u_126 = fX1_add m_79.1 m_79.2 m_118 u_53.2.2.2.2 := hw9
              obtain ⟨hP, hD⟩ := back_std (w1 := (wX1_add cI cB a_d1 a_dg1 a_d2 a_dg2 u_126.1 u_126.2 m_118 u_53.2.2.2.2)) (w2 := (wX2_combine cI cB a_de a_ins a_mc a_me a_ps a_by a_ks a_rg a_d1 a_dg1 a_d2 a_dg2 a_src u_48.1 u_48.2.1 v_op v_i v_r v_s v_a v_b u_53.1 v_word v_bF v_kF u_126.1 u_126.2 m_118 u_53.2.2.2.2)) (wr := [(a_de, .inr (2, [.ref a_mc, .ref a_ins, .ref a_me, .ref a_d1, .ref a_d2, .ref a_src, .int u_48.1, .int u_48.2.1])), (a_ins, .inr (4, [.ref a_mc, .ref a_me, .int v_op, .int v_i, .int v_r, .int v_s, .int v_a, .int v_b])), (a_mc, .inr (5, [.ref a_me, .ref a_ps, .ref a_rg, .int u_53.1])), (a_me, .inr (6, [.ref a_by, .ref a_ks])), (a_ps, .inr (7, [.long v_word])), (a_by, .inl (cB, 8192, .inl v_bF)), (a_ks, .inl (cI, 4, .inl v_kF))]) hP hD [7, 8, 9, 10] [0, 1, 2, 3, 4, 5, 6] [0, 1, 2, 3, 4, 5, 6, 7, 8, 9, 10] rfl rfl (by decide) (by decide) hk9 hFc hB9 ht9 (by decide) rfl
              clear hB9 hk9 hz9 hvm9 ht9 hFc hPc hDc
              generalize H1 = H at hP hS ⊢
              refine lv_iload_n hx hb dX2_combine_129 rfl (lv_at hl 1 rfl) ?_
              refine lv_if_eq (tgt := 151) hx hb dX2_combine_130 (by decide) (fun c_130 => ?_) (fun c_130 => ?_)
              · skip
                refine lv_aload_n hx hb dX2_combine_151 rfl (lv_at hl 0 rfl) ?_
                have hPc : va_P D vwCl (wX2_giveFirst cI cB a_de a_ins a_mc a_me a_ps a_by a_ks a_rg a_d1 a_dg1 a_d2 a_src u_48.1 u_48.2.1 v_op v_i v_r v_s v_a v_b u_53.1 v_word v_bF u_126.1 u_126.2) H := hP.sub [0, 1, 2, 3, 4, 5, 7, 8] rfl
                have hDc : va_D A (wX2_giveFirst cI cB a_de a_ins a_mc a_me a_ps a_by a_ks a_rg a_d1 a_dg1 a_d2 a_src u_48.1 u_48.2.1 v_op v_i v_r v_s v_a v_b u_53.1 v_word v_bF u_126.1 u_126.2) := hD.sub [0, 1, 2, 3, 4, 5, 7, 8] (by decide) rfl
                have hFc := va_free (wc := (wX2_giveFirst cI cB a_de a_ins a_mc a_me a_ps a_by a_ks a_rg a_d1 a_dg1 a_d2 a_src u_48.1 u_48.2.1 v_op v_i v_r v_s v_a v_b u_53.1 v_word v_bF u_126.1 u_126.2)) hD hS hA [0, 1, 2, 3, 4, 5, 7, 8] rfl
                refine va_callv (va_runV (As := []) (rest := []) ⟨hx, hb, hml, hown, hts⟩ (kX2_giveFirst l D cI cB a_de a_ins a_mc a_me a_ps a_by a_ks a_rg a_d1 a_dg1 a_d2 a_src H.size u_48.1 u_48.2.1 v_op v_i v_r v_s v_a v_b u_53.1 v_word v_bF u_126.1 u_126.2 ) (cwV 0 hts (gd_V wd_261 wd_262 wd_263 wd_225 wd_254) rfl rfl rfl hdX2_giveFirst ⟨Nat.le_of_ble_eq_true rfl, Nat.le_of_ble_eq_true rfl⟩) (preV_std (ci := 2) (q0 := 0) hPc hK hDc hNW rfl rfl) rfl rfl hl.1 rfl (lv_room (Nat.le_of_ble_eq_true rfl)) dX2_combine_152 ⟨Nat.zero_le _, Nat.zero_le _⟩) hS (fun q _ h => hFc q h) hFc (fun u_152 t9 H1 locs ht9 hvm9 hw9 hB9 hz9 hk9 hS => ?_)
                have eu_152 : u_152 = fX2_giveFirst u_48.1 v_a u_53.1 v_word v_bF u_126.1 u_126.2 := hw9
                obtain ⟨hP, hD⟩ := back_std (w1 := (wX2_giveFirst cI cB a_de a_ins a_mc a_me a_ps a_by a_ks a_rg a_d1 a_dg1 a_d2 a_src u_48.1 u_48.2.1 v_op v_i v_r v_s v_a v_b u_152.1 u_152.2.1 u_152.2.2 u_126.1 u_126.2)) (w2 := (wX2_combine cI cB a_de a_ins a_mc a_me a_ps a_by a_ks a_rg a_d1 a_dg1 a_d2 a_dg2 a_src u_48.1 u_48.2.1 v_op v_i v_r v_s v_a v_b u_152.1 u_152.2.1 u_152.2.2 v_kF u_126.1 u_126.2 m_118 u_53.2.2.2.2)) (wr := [(a_ks, .inl (cI, 4, .inl v_kF)), (a_d2, .inr (1, [.ref a_dg2, .int m_118])), (a_dg2, .inl (cI, 32, .inl u_53.2.2.2.2))]) hP hD [0, 1, 2, 3, 4, 5, 7, 8] [6, 9, 10] [3, 4, 5, 6, 7, 8, 0, 9, 10, 1, 2] rfl rfl (by decide) (by decide) hk9 hFc hB9 ht9 (by decide) rfl
                clear hB9 hk9 hz9 hvm9 ht9 hFc hPc hDc
                generalize H1 = H at hP hS ⊢
                have hf9 : (u_48.1, u_48.2.1, u_152.1, u_152.2.1, u_152.2.2, u_126.1, u_126.2, m_118, u_53.2.2.2.2) = fX2_combine v_fb v_sb v_op v_r v_s v_a v_b v_fault v_word v_bF v_kF v_below1 v_dF1 v_below2 v_dF2 := by simp only [fX2_combine, ← em_18, ← em_37, ← em_48, ← eu_48, ← eu_53, ← er_60, ← em_79, ← em_118, ← eu_126, ← eu_152]; (try simp only [if_neg c_63, if_pos c_130])
                exact W.vret hx hb hr (fun t9 ht9 hW9 => ⟨⟨(u_48.1, u_48.2.1, u_152.1, u_152.2.1, u_152.2.2, u_126.1, u_126.2, m_118, u_53.2.2.2.2), rfl, hf9, ⟨by rw [ht9]; exact hP, va_K.moved hW9.alike hK, hD⟩⟩, hS.F ht9⟩) hS.2.2 dX2_combine_155
              · skip
                refine lv_aload_n hx hb dX2_combine_133 rfl (lv_at hl 0 rfl) ?_
                refine va_get (D := D) (ci := 2) (v := .ref a_mc) (C := RX2) (T := TX2) (N := 8) hx hb hts in_X2 hown hK hP 0 rfl rfl 0 (by decide) q_1 (fun _ h9 => h9) rfl dX2_combine_134 ?_
                refine lv_aload_n hx hb dX2_combine_137 rfl (lv_at hl 0 rfl) ?_
                refine va_get (D := D) (ci := 2) (v := .ref a_d1) (C := RX2) (T := TX2) (N := 8) hx hb hts in_X2 hown hK hP 0 rfl rfl 3 (by decide) q_2 (fun _ h9 => h9) rfl dX2_combine_138 ?_
                have hPc : va_P D vwCl (wX1_sign cI cB a_d1 a_dg1 u_126.1 u_126.2) H := hP.sub [7, 8] rfl
                have hDc : va_D A (wX1_sign cI cB a_d1 a_dg1 u_126.1 u_126.2) := hD.sub [7, 8] (by decide) rfl
                have hFc := va_free (wc := (wX1_sign cI cB a_d1 a_dg1 u_126.1 u_126.2)) hD hS hA [7, 8] rfl
                refine va_calli (va_runV (As := []) (rest := [.ref a_mc]) ⟨hx, hb, hml, hown, hts⟩ (kX1_sign l D cI cB a_d1 a_dg1 H.size u_126.1 u_126.2 ) (cwV 0 hts (gd_V wd_248 wd_249 wd_250 wd_138 wd_158) rfl rfl rfl hdX1_sign ⟨Nat.le_of_ble_eq_true rfl, Nat.le_of_ble_eq_true rfl⟩) (preV_std (ci := 1) (q0 := 0) hPc hK hDc hNW rfl rfl) rfl rfl hl.1 rfl (lv_room (Nat.le_of_ble_eq_true rfl)) dX2_combine_141 ⟨Nat.zero_le _, Nat.zero_le _⟩) hS (fun q _ h => hFc q h) hFc (fun r_141 u_141 t9 H1 locs ht9 hvm9 hw9 hB9 hz9 hk9 hS => ?_)
                have er_141 : r_141 = fX1_sign u_126.1 u_126.2 := hw9
                obtain ⟨hP, hD⟩ := back_std (w1 := (wX1_sign cI cB a_d1 a_dg1 u_126.1 u_126.2)) (w2 := (wX2_combine cI cB a_de a_ins a_mc a_me a_ps a_by a_ks a_rg a_d1 a_dg1 a_d2 a_dg2 a_src u_48.1 u_48.2.1 v_op v_i v_r v_s v_a v_b u_53.1 v_word v_bF v_kF u_126.1 u_126.2 m_118 u_53.2.2.2.2)) (wr := [(a_de, .inr (2, [.ref a_mc, .ref a_ins, .ref a_me, .ref a_d1, .ref a_d2, .ref a_src, .int u_48.1, .int u_48.2.1])), (a_ins, .inr (4, [.ref a_mc, .ref a_me, .int v_op, .int v_i, .int v_r, .int v_s, .int v_a, .int v_b])), (a_mc, .inr (5, [.ref a_me, .ref a_ps, .ref a_rg, .int u_53.1])), (a_me, .inr (6, [.ref a_by, .ref a_ks])), (a_ps, .inr (7, [.long v_word])), (a_by, .inl (cB, 8192, .inl v_bF)), (a_ks, .inl (cI, 4, .inl v_kF)), (a_d2, .inr (1, [.ref a_dg2, .int m_118])), (a_dg2, .inl (cI, 32, .inl u_53.2.2.2.2))]) hP hD [7, 8] [0, 1, 2, 3, 4, 5, 6, 9, 10] [0, 1, 2, 3, 4, 5, 6, 9, 10, 7, 8] rfl rfl (by decide) (by decide) hk9 hFc hB9 ht9 (by decide) rfl
                clear hB9 hk9 hz9 hvm9 ht9 hFc hPc hDc
                generalize H1 = H at hP hS ⊢
                refine lv_i2l hx hb dX2_combine_144 rfl ?_
                have hPc : va_P D vwCl (wX5_conditionByNumber cI cB a_mc a_me a_ps a_rg u_53.1 v_word) H := hP.sub [2, 4] rfl
                have hDc : va_D A (wX5_conditionByNumber cI cB a_mc a_me a_ps a_rg u_53.1 v_word) := hD.sub [2, 4] (by decide) rfl
                have hFc := va_free (wc := (wX5_conditionByNumber cI cB a_mc a_me a_ps a_rg u_53.1 v_word)) hD hS hA [2, 4] rfl
                refine va_callv (va_runV (As := [.long (r_141 : Int32).toInt64]) (rest := []) ⟨hx, hb, hml, hown, hts⟩ (kX5_conditionByNumber l D cI cB a_mc a_me a_ps a_rg H.size u_53.1 v_word ((r_141 : Int32).toInt64)) (cwV 1 hts (gd_V wd_251 wd_252 wd_253 wd_24 wd_239) rfl rfl rfl hdX5_conditionByNumber ⟨Nat.le_of_ble_eq_true rfl, Nat.le_of_ble_eq_true rfl⟩) (preV_std (ci := 5) (q0 := 0) hPc hK hDc hNW rfl rfl) rfl rfl hl.1 rfl (lv_room (Nat.le_of_ble_eq_true rfl)) dX2_combine_145 ⟨Nat.zero_le _, Nat.zero_le _⟩) hS (fun q _ h => hFc q h) hFc (fun u_145 t9 H1 locs ht9 hvm9 hw9 hB9 hz9 hk9 hS => ?_)
                have eu_145 : u_145 = fX5_conditionByNumber ((r_141 : Int32).toInt64) v_word := hw9
                obtain ⟨hP, hD⟩ := back_std (w1 := (wX5_conditionByNumber cI cB a_mc a_me a_ps a_rg u_53.1 u_145)) (w2 := (wX2_combine cI cB a_de a_ins a_mc a_me a_ps a_by a_ks a_rg a_d1 a_dg1 a_d2 a_dg2 a_src u_48.1 u_48.2.1 v_op v_i v_r v_s v_a v_b u_53.1 u_145 v_bF v_kF u_126.1 u_126.2 m_118 u_53.2.2.2.2)) (wr := [(a_de, .inr (2, [.ref a_mc, .ref a_ins, .ref a_me, .ref a_d1, .ref a_d2, .ref a_src, .int u_48.1, .int u_48.2.1])), (a_ins, .inr (4, [.ref a_mc, .ref a_me, .int v_op, .int v_i, .int v_r, .int v_s, .int v_a, .int v_b])), (a_me, .inr (6, [.ref a_by, .ref a_ks])), (a_by, .inl (cB, 8192, .inl v_bF)), (a_ks, .inl (cI, 4, .inl v_kF)), (a_d1, .inr (1, [.ref a_dg1, .int u_126.1])), (a_dg1, .inl (cI, 32, .inl u_126.2)), (a_d2, .inr (1, [.ref a_dg2, .int m_118])), (a_dg2, .inl (cI, 32, .inl u_53.2.2.2.2))]) hP hD [2, 4] [0, 1, 3, 5, 6, 7, 8, 9, 10] [0, 1, 9, 2, 10, 3, 4, 5, 6, 7, 8] rfl rfl (by decide) (by decide) hk9 hFc hB9 ht9 (by decide) rfl
                clear hB9 hk9 hz9 hvm9 ht9 hFc hPc hDc
                generalize H1 = H at hP hS ⊢
                refine lv_goto (tgt := 155) hx hb dX2_combine_148 (by decide) ?_
                have hf9 : (u_48.1, u_48.2.1, u_53.1, u_145, v_bF, u_126.1, u_126.2, m_118, u_53.2.2.2.2) = fX2_combine v_fb v_sb v_op v_r v_s v_a v_b v_fault v_word v_bF v_kF v_below1 v_dF1 v_below2 v_dF2 := by simp only [fX2_combine, ← em_18, ← em_37, ← em_48, ← eu_48, ← eu_53, ← er_60, ← em_79, ← em_118, ← eu_126, ← er_141, ← eu_145]; (try simp only [if_neg c_63, if_neg c_130])
                exact W.vret hx hb hr (fun t9 ht9 hW9 => ⟨⟨(u_48.1, u_48.2.1, u_53.1, u_145, v_bF, u_126.1, u_126.2, m_118, u_53.2.2.2.2), rfl, hf9, ⟨by rw [ht9]; exact hP, va_K.moved hW9.alike hK, hD⟩⟩, hS.F ht9⟩) hS.2.2 dX2_combine_155
            refine lv_if_ne (tgt := 96) hx hb dX2_combine_80 (by decide) (fun c_80 => ?_) (fun c_80 => ?_)
            · skip
              refine lv_aload_n hx hb dX2_combine_96 rfl (lv_at hl 0 rfl) ?_
              refine va_get (D := D) (ci := 2) (v := .ref a_d2) (C := RX2) (T := TX2) (N := 8) hx hb hts in_X2 hown hK hP 0 rfl rfl 4 (by decide) q_3 (fun _ h9 => h9) rfl dX2_combine_97 ?_
              refine lv_aload_n hx hb dX2_combine_100 rfl (lv_at hl 0 rfl) ?_
              refine va_get (D := D) (ci := 2) (v := .ref a_d2) (C := RX2) (T := TX2) (N := 8) hx hb hts in_X2 hown hK hP 0 rfl rfl 4 (by decide) q_3 (fun _ h9 => h9) rfl dX2_combine_101 ?_
              refine va_getN (D := D) (ci := 1) (v := .int u_53.2.2.2.1) (C := RX1) (T := TX1) (N := 2) hx hb hts in_X1 hown hK hP 9 rfl rfl 1 (by decide) n_1 (fun _ h9 => h9) rfl dX2_combine_104 ?_
              have J_115 : ∀ (m_115 : Int32), m_115 = (if u_53.2.2.2.1 = 0 then (1) else (0)) → ∀ (H : Heap) (locs : List Loc), va_P D vwCl (wX2_combine cI cB a_de a_ins a_mc a_me a_ps a_by a_ks a_rg a_d1 a_dg1 a_d2 a_dg2 a_src u_48.1 u_48.2.1 v_op v_i v_r v_s v_a v_b u_53.1 v_word v_bF v_kF m_79.1 m_79.2 u_53.2.2.2.1 u_53.2.2.2.2) H → va_D A (wX2_combine cI cB a_de a_ins a_mc a_me a_ps a_by a_ks a_rg a_d1 a_dg1 a_d2 a_dg2 a_src u_48.1 u_48.2.1 v_op v_i v_r v_s v_a v_b u_53.1 v_word v_bF v_kF m_79.1 m_79.2 u_53.2.2.2.1 u_53.2.2.2.2) → va_S A s.heap H locs → ∀ (ls : Array Slot), lv_has ls 3 [(0, .ref a_de), (1, .int m_18), (2, .int m_37)] → W p l e rmX2_combine s m ([.ref a_de] : List Value).toArray below meth c H locs 0 0 (MQ below (qX2_combine D cI cB a_de a_ins a_mc a_me a_ps a_by a_ks a_rg a_d1 a_dg1 a_d2 a_dg2 a_src v_fb v_sb v_op v_i v_r v_s v_a v_b v_fault v_word v_bF v_kF v_below1 v_dF1 v_below2 v_dF2 A) ([.ref a_de] : List Value).toArray s 0 0 A) (F0 m 115 ls [.int m_115, .ref a_d2]) := by
                intro m_115 em_115 H locs hP hD hS ls hl
                try dsimp only at em_115
                have zm_115_0 : m_115 = 0 ∨ m_115 = 1 := by rw [em_115]; (try dsimp only); (repeat' split) <;> first | exact Or.inl rfl | exact Or.inr rfl
                refine va_putN (D := D) (ci := 1) (v := .int m_115) (ty := .boolean) (C := RX1) (T := TX1) (N := 2) hx hb hts in_X1 tyX1 tyX1_ok nmX1 hown hK hP hD hS 9 rfl rfl 1 (by decide) n_1 (fun _ h9 => h9) rfl (by decide +kernel) (zb_narrow (by with_reducible assumption)) (zb_fits (by with_reducible assumption)) (Nat.le_of_ble_eq_true rfl) dX2_combine_115 (fun H locs hP hD hS => ?_)
                have hP : va_P D vwCl (wX2_combine cI cB a_de a_ins a_mc a_me a_ps a_by a_ks a_rg a_d1 a_dg1 a_d2 a_dg2 a_src u_48.1 u_48.2.1 v_op v_i v_r v_s v_a v_b u_53.1 v_word v_bF v_kF m_79.1 m_79.2 m_115 u_53.2.2.2.2) H := hP
                have hD : va_D A (wX2_combine cI cB a_de a_ins a_mc a_me a_ps a_by a_ks a_rg a_d1 a_dg1 a_d2 a_dg2 a_src u_48.1 u_48.2.1 v_op v_i v_r v_s v_a v_b u_53.1 v_word v_bF v_kF m_79.1 m_79.2 m_115 u_53.2.2.2.2) := hD
                exact J_118 m_115 (by (try simp only [← em_115]); (try simp only [if_neg c_80])) _ _ hP hD hS ls (lv_sub hl [0, 1, 2] rfl)
              refine lv_if_ne (tgt := 114) hx hb dX2_combine_107 (by decide) (fun c_107 => ?_) (fun c_107 => ?_)
              · skip
                refine lv_iconst (v := 0) hx hb dX2_combine_114 (by decide) ?_
                exact J_115 0 (by (try simp only [if_neg c_107])) _ _ hP hD hS ls (lv_sub hl [0, 1, 2] rfl)
              · skip
                refine lv_iconst (v := 1) hx hb dX2_combine_110 (by decide) ?_
                refine lv_goto (tgt := 115) hx hb dX2_combine_111 (by decide) ?_
                exact J_115 1 (by (try simp only [if_pos c_107])) _ _ hP hD hS ls (lv_sub hl [0, 1, 2] rfl)
            · skip
              refine lv_aload_n hx hb dX2_combine_83 rfl (lv_at hl 0 rfl) ?_
              refine va_get (D := D) (ci := 2) (v := .ref a_ins) (C := RX2) (T := TX2) (N := 8) hx hb hts in_X2 hown hK hP 0 rfl rfl 1 (by decide) q_0 (fun _ h9 => h9) rfl dX2_combine_84 ?_
              refine va_getN (D := D) (ci := 4) (v := .int v_op) (C := RX4) (T := TX4) (N := 8) hx hb hts in_X4 hown hK hP 1 rfl rfl 2 (by decide) n_0 (fun _ h9 => h9) rfl dX2_combine_87 ?_
              refine lv_sipush (v := 251) hx hb dX2_combine_90 (by decide) ?_
              refine lv_icmp_ne (tgt := 118) hx hb dX2_combine_93 (by decide) (fun c_93 => ?_) (fun c_93 => ?_)
              · skip
                exact J_118 u_53.2.2.2.1 (by (try simp only [if_pos c_80, if_neg c_93])) _ _ hP hD hS ls (lv_sub hl [0, 1, 2] rfl)
              · skip
                refine lv_aload_n hx hb dX2_combine_96 rfl (lv_at hl 0 rfl) ?_
                refine va_get (D := D) (ci := 2) (v := .ref a_d2) (C := RX2) (T := TX2) (N := 8) hx hb hts in_X2 hown hK hP 0 rfl rfl 4 (by decide) q_3 (fun _ h9 => h9) rfl dX2_combine_97 ?_
                refine lv_aload_n hx hb dX2_combine_100 rfl (lv_at hl 0 rfl) ?_
                refine va_get (D := D) (ci := 2) (v := .ref a_d2) (C := RX2) (T := TX2) (N := 8) hx hb hts in_X2 hown hK hP 0 rfl rfl 4 (by decide) q_3 (fun _ h9 => h9) rfl dX2_combine_101 ?_
                refine va_getN (D := D) (ci := 1) (v := .int u_53.2.2.2.1) (C := RX1) (T := TX1) (N := 2) hx hb hts in_X1 hown hK hP 9 rfl rfl 1 (by decide) n_1 (fun _ h9 => h9) rfl dX2_combine_104 ?_
                have J_115 : ∀ (m_115 : Int32), m_115 = (if u_53.2.2.2.1 = 0 then (1) else (0)) → ∀ (H : Heap) (locs : List Loc), va_P D vwCl (wX2_combine cI cB a_de a_ins a_mc a_me a_ps a_by a_ks a_rg a_d1 a_dg1 a_d2 a_dg2 a_src u_48.1 u_48.2.1 v_op v_i v_r v_s v_a v_b u_53.1 v_word v_bF v_kF m_79.1 m_79.2 u_53.2.2.2.1 u_53.2.2.2.2) H → va_D A (wX2_combine cI cB a_de a_ins a_mc a_me a_ps a_by a_ks a_rg a_d1 a_dg1 a_d2 a_dg2 a_src u_48.1 u_48.2.1 v_op v_i v_r v_s v_a v_b u_53.1 v_word v_bF v_kF m_79.1 m_79.2 u_53.2.2.2.1 u_53.2.2.2.2) → va_S A s.heap H locs → ∀ (ls : Array Slot), lv_has ls 3 [(0, .ref a_de), (1, .int m_18), (2, .int m_37)] → W p l e rmX2_combine s m ([.ref a_de] : List Value).toArray below meth c H locs 0 0 (MQ below (qX2_combine D cI cB a_de a_ins a_mc a_me a_ps a_by a_ks a_rg a_d1 a_dg1 a_d2 a_dg2 a_src v_fb v_sb v_op v_i v_r v_s v_a v_b v_fault v_word v_bF v_kF v_below1 v_dF1 v_below2 v_dF2 A) ([.ref a_de] : List Value).toArray s 0 0 A) (F0 m 115 ls [.int m_115, .ref a_d2]) := by
                  intro m_115 em_115 H locs hP hD hS ls hl
                  try dsimp only at em_115
                  have zm_115_0 : m_115 = 0 ∨ m_115 = 1 := by rw [em_115]; (try dsimp only); (repeat' split) <;> first | exact Or.inl rfl | exact Or.inr rfl
                  refine va_putN (D := D) (ci := 1) (v := .int m_115) (ty := .boolean) (C := RX1) (T := TX1) (N := 2) hx hb hts in_X1 tyX1 tyX1_ok nmX1 hown hK hP hD hS 9 rfl rfl 1 (by decide) n_1 (fun _ h9 => h9) rfl (by decide +kernel) (zb_narrow (by with_reducible assumption)) (zb_fits (by with_reducible assumption)) (Nat.le_of_ble_eq_true rfl) dX2_combine_115 (fun H locs hP hD hS => ?_)
                  have hP : va_P D vwCl (wX2_combine cI cB a_de a_ins a_mc a_me a_ps a_by a_ks a_rg a_d1 a_dg1 a_d2 a_dg2 a_src u_48.1 u_48.2.1 v_op v_i v_r v_s v_a v_b u_53.1 v_word v_bF v_kF m_79.1 m_79.2 m_115 u_53.2.2.2.2) H := hP
                  have hD : va_D A (wX2_combine cI cB a_de a_ins a_mc a_me a_ps a_by a_ks a_rg a_d1 a_dg1 a_d2 a_dg2 a_src u_48.1 u_48.2.1 v_op v_i v_r v_s v_a v_b u_53.1 v_word v_bF v_kF m_79.1 m_79.2 m_115 u_53.2.2.2.2) := hD
                  exact J_118 m_115 (by (try simp only [← em_115]); (try simp only [if_pos c_80, if_pos c_93])) _ _ hP hD hS ls (lv_sub hl [0, 1, 2] rfl)
                refine lv_if_ne (tgt := 114) hx hb dX2_combine_107 (by decide) (fun c_107 => ?_) (fun c_107 => ?_)
                · skip
                  refine lv_iconst (v := 0) hx hb dX2_combine_114 (by decide) ?_
                  exact J_115 0 (by (try simp only [if_neg c_107])) _ _ hP hD hS ls (lv_sub hl [0, 1, 2] rfl)
                · skip
                  refine lv_iconst (v := 1) hx hb dX2_combine_110 (by decide) ?_
                  refine lv_goto (tgt := 115) hx hb dX2_combine_111 (by decide) ?_
                  exact J_115 1 (by (try simp only [if_pos c_107])) _ _ hP hD hS ls (lv_sub hl [0, 1, 2] rfl)
          refine lv_if_eq (tgt := 79) hx hb dX2_combine_68 (by decide) (fun c_68 => ?_) (fun c_68 => ?_)
          · skip
            exact J_79 (u_53.2.1, u_53.2.2.1) (by (try simp only [if_pos c_68])) _ _ hP hD hS ls (lv_sub hl [0, 1, 2] rfl)
          · skip
            refine lv_aload_n hx hb dX2_combine_71 rfl (lv_at hl 0 rfl) ?_
            refine va_get (D := D) (ci := 2) (v := .ref a_d1) (C := RX2) (T := TX2) (N := 8) hx hb hts in_X2 hown hK hP 0 rfl rfl 3 (by decide) q_2 (fun _ h9 => h9) rfl dX2_combine_72 ?_
            refine lv_lconst (v := 0) hx hb dX2_combine_75 (by decide) ?_
            have hPc : va_P D vwCl (wX1_setNumber cI cB a_d1 a_dg1 u_53.2.1 u_53.2.2.1) H := hP.sub [7, 8] rfl
            have hDc : va_D A (wX1_setNumber cI cB a_d1 a_dg1 u_53.2.1 u_53.2.2.1) := hD.sub [7, 8] (by decide) rfl
            have hFc := va_free (wc := (wX1_setNumber cI cB a_d1 a_dg1 u_53.2.1 u_53.2.2.1)) hD hS hA [7, 8] rfl
            refine va_callv (va_runV (As := [.long 0]) (rest := []) ⟨hx, hb, hml, hown, hts⟩ (kX1_setNumber l D cI cB a_d1 a_dg1 H.size u_53.2.1 u_53.2.2.1 0) (cwV 1 hts (gd_V wd_201 wd_202 wd_203 wd_138 wd_162) rfl rfl rfl hdX1_setNumber ⟨Nat.le_of_ble_eq_true rfl, Nat.le_of_ble_eq_true rfl⟩) (preV_std (ci := 1) (q0 := 0) hPc hK hDc hNW rfl rfl) rfl rfl hl.1 rfl (lv_room (Nat.le_of_ble_eq_true rfl)) dX2_combine_76 ⟨Nat.zero_le _, Nat.zero_le _⟩) hS (fun q _ h => hFc q h) hFc (fun u_76 t9 H1 locs ht9 hvm9 hw9 hB9 hz9 hk9 hS => ?_)
            have eu_76 : u_76 = fX1_setNumber 0 u_53.2.1 u_53.2.2.1 := hw9
            obtain ⟨hP, hD⟩ := back_std (w1 := (wX1_setNumber cI cB a_d1 a_dg1 u_76.1 u_76.2)) (w2 := (wX2_combine cI cB a_de a_ins a_mc a_me a_ps a_by a_ks a_rg a_d1 a_dg1 a_d2 a_dg2 a_src u_48.1 u_48.2.1 v_op v_i v_r v_s v_a v_b u_53.1 v_word v_bF v_kF u_76.1 u_76.2 u_53.2.2.2.1 u_53.2.2.2.2)) (wr := [(a_de, .inr (2, [.ref a_mc, .ref a_ins, .ref a_me, .ref a_d1, .ref a_d2, .ref a_src, .int u_48.1, .int u_48.2.1])), (a_ins, .inr (4, [.ref a_mc, .ref a_me, .int v_op, .int v_i, .int v_r, .int v_s, .int v_a, .int v_b])), (a_mc, .inr (5, [.ref a_me, .ref a_ps, .ref a_rg, .int u_53.1])), (a_me, .inr (6, [.ref a_by, .ref a_ks])), (a_ps, .inr (7, [.long v_word])), (a_by, .inl (cB, 8192, .inl v_bF)), (a_ks, .inl (cI, 4, .inl v_kF)), (a_d2, .inr (1, [.ref a_dg2, .int u_53.2.2.2.1])), (a_dg2, .inl (cI, 32, .inl u_53.2.2.2.2))]) hP hD [7, 8] [0, 1, 2, 3, 4, 5, 6, 9, 10] [0, 1, 2, 3, 4, 5, 6, 9, 10, 7, 8] rfl rfl (by decide) (by decide) hk9 hFc hB9 ht9 (by decide) rfl
            clear hB9 hk9 hz9 hvm9 ht9 hFc hPc hDc
            generalize H1 = H at hP hS ⊢
            exact J_79 (u_76.1, u_76.2) (by (try simp only [← eu_76]); (try simp only [if_neg c_68])) _ _ hP hD hS ls (lv_sub hl [0, 1, 2] rfl)
        · skip
          have hf9 : (u_48.1, u_48.2.1, u_53.1, v_word, v_bF, u_53.2.1, u_53.2.2.1, u_53.2.2.2.1, u_53.2.2.2.2) = fX2_combine v_fb v_sb v_op v_r v_s v_a v_b v_fault v_word v_bF v_kF v_below1 v_dF1 v_below2 v_dF2 := by simp only [fX2_combine, ← em_18, ← em_37, ← em_48, ← eu_48, ← eu_53, ← er_60]; (try simp only [if_pos c_63])
          exact W.vret hx hb hr (fun t9 ht9 hW9 => ⟨⟨(u_48.1, u_48.2.1, u_53.1, v_word, v_bF, u_53.2.1, u_53.2.2.1, u_53.2.2.2.1, u_53.2.2.2.2), rfl, hf9, ⟨by rw [ht9]; exact hP, va_K.moved hW9.alike hK, hD⟩⟩, hS.F ht9⟩) hS.2.2 dX2_combine_66
      refine lv_if_eq (tgt := 47) hx hb dX2_combine_40 (by decide) (fun c_40 => ?_) (fun c_40 => ?_)
      · skip
        refine lv_iconst (v := 1) hx hb dX2_combine_47 (by decide) ?_
        exact J_48 1 (by (try simp only [if_pos c_40])) _ _ hP hD hS ls (lv_sub hl [1, 2, 0] rfl)
      · skip
        refine lv_iconst (v := 0) hx hb dX2_combine_43 (by decide) ?_
        refine lv_goto (tgt := 48) hx hb dX2_combine_44 (by decide) ?_
        exact J_48 0 (by (try simp only [if_neg c_40])) _ _ hP hD hS ls (lv_sub hl [1, 2, 0] rfl)
    refine lv_icmp_ne (tgt := 36) hx hb dX2_combine_29 (by decide) (fun c_29 => ?_) (fun c_29 => ?_)
    · skip
      refine lv_iconst (v := 0) hx hb dX2_combine_36 (by decide) ?_
      exact J_37 0 (by (try simp only [if_neg c_29])) _ _ hP hD hS ls (lv_sub hl [1, 0] rfl)
    · skip
      refine lv_iconst (v := 1) hx hb dX2_combine_32 (by decide) ?_
      refine lv_goto (tgt := 37) hx hb dX2_combine_33 (by decide) ?_
      exact J_37 1 (by (try simp only [if_pos c_29])) _ _ hP hD hS ls (lv_sub hl [1, 0] rfl)
  refine lv_icmp_ne (tgt := 17) hx hb dX2_combine_10 (by decide) (fun c_10 => ?_) (fun c_10 => ?_)
  · skip
    refine lv_iconst (v := 0) hx hb dX2_combine_17 (by decide) ?_
    exact J_18 0 (by (try simp only [if_neg c_10])) _ _ hP hD hS ls (lv_sub hl [0] rfl)
  · skip
    refine lv_iconst (v := 1) hx hb dX2_combine_13 (by decide) ?_
    refine lv_goto (tgt := 18) hx hb dX2_combine_14 (by decide) ?_
    exact J_18 1 (by (try simp only [if_pos c_10])) _ _ hP hD hS ls (lv_sub hl [0] rfl)
theorem hdX2_combine : yX2_combine.cls = RX2 ∧ yX2_combine.cls ≠ "java/lang/invoke/MethodHandle" ∧ yX2_combine.cls ≠ "java/lang/invoke/VarHandle" ∧ (parseMethodDescriptor yX2_combine.desc).map (fun d => d.parameters.length) = some 0 := by decide +kernel
noncomputable def fX2_multiply (v_fb : Int32) (v_sb : Int32) (v_a : Int32) (v_fault : Int32) (v_bF : (Nat → Int32)) (v_below1 : Int32) (v_dF1 : (Nat → Int32)) (v_below2 : Int32) (v_dF2 : (Nat → Int32)) : (Int32 × (Nat → Int32) × Int32 × (Nat → Int32)) :=
  let r_17 := fX1_isLongerThan ((2 * (v_fb - v_sb)) - 1) v_dF1
  if r_17 = 0 then (let r_41 := fX1_size v_dF2; let u_44 := fX1_multiply r_41 v_dF1; let m_73 : Int32 := (if v_below1 = v_below2 then (0) else (1)); let u_95 := fX1_give v_a v_fb v_bF m_73 u_44; (v_fault, u_95, m_73, u_44)) else (let u_29 := fX5_fail 7 v_fault; (u_29, v_bF, v_below1, v_dF1))
abbrev wX2_multiply (cI cB : ClassId) (a_de a_ins a_mc a_me a_ps a_by a_ks a_rg a_d1 a_dg1 a_d2 a_dg2 a_src : Nat) (v_fb : Int32) (v_sb : Int32) (v_op : Int32) (v_i : Int32) (v_r : Int32) (v_s : Int32) (v_a : Int32) (v_b : Int32) (v_fault : Int32) (v_bF : (Nat → Int32)) (v_below1 : Int32) (v_dF1 : (Nat → Int32)) (v_below2 : Int32) (v_dF2 : (Nat → Int32)) : va_W := [(a_de, .inr (2, [.ref a_mc, .ref a_ins, .ref a_me, .ref a_d1, .ref a_d2, .ref a_src, .int v_fb, .int v_sb])), (a_ins, .inr (4, [.ref a_mc, .ref a_me, .int v_op, .int v_i, .int v_r, .int v_s, .int v_a, .int v_b])), (a_mc, .inr (5, [.ref a_me, .ref a_ps, .ref a_rg, .int v_fault])), (a_me, .inr (6, [.ref a_by, .ref a_ks])), (a_by, .inl (cB, 8192, .inl v_bF)), (a_d1, .inr (1, [.ref a_dg1, .int v_below1])), (a_dg1, .inl (cI, 32, .inl v_dF1)), (a_d2, .inr (1, [.ref a_dg2, .int v_below2])), (a_dg2, .inl (cI, 32, .inl v_dF2))]
abbrev rmX2_multiply : Room := { frames := 2, cells := 0, slots := 0, locals := 47 }
abbrev qX2_multiply (D : va_G) (cI cB : ClassId) (a_de a_ins a_mc a_me a_ps a_by a_ks a_rg a_d1 a_dg1 a_d2 a_dg2 a_src : Nat) (v_fb : Int32) (v_sb : Int32) (v_op : Int32) (v_i : Int32) (v_r : Int32) (v_s : Int32) (v_a : Int32) (v_b : Int32) (v_fault : Int32) (v_bF : (Nat → Int32)) (v_below1 : Int32) (v_dF1 : (Nat → Int32)) (v_below2 : Int32) (v_dF2 : (Nat → Int32)) : (Nat → Prop) → Array Value → State → Outcome → State → Prop := fun A9 => va_Qv (fun (u9 : (Int32 × (Nat → Int32) × Int32 × (Nat → Int32))) => u9 = fX2_multiply v_fb v_sb v_a v_fault v_bF v_below1 v_dF1 v_below2 v_dF2) (fun u9 t9 => atW D (TYS cI cB) A9 (wX2_multiply cI cB a_de a_ins a_mc a_me a_ps a_by a_ks a_rg a_d1 a_dg1 a_d2 a_dg2 a_src v_fb v_sb v_op v_i v_r v_s v_a v_b u9.1 u9.2.1 u9.2.2.1 u9.2.2.2 v_below2 v_dF2) t9) A9
set_option maxHeartbeats 4000000 in
set_option maxRecDepth 100000 in
theorem kX2_multiply (l : Launch) (D : va_G) (cI cB : ClassId) (a_de a_ins a_mc a_me a_ps a_by a_ks a_rg a_d1 a_dg1 a_d2 a_dg2 a_src : Nat) (sz : Nat) (v_fb : Int32) (v_sb : Int32) (v_op : Int32) (v_i : Int32) (v_r : Int32) (v_s : Int32) (v_a : Int32) (v_b : Int32) (v_fault : Int32) (v_bF : (Nat → Int32)) (v_below1 : Int32) (v_dF1 : (Nat → Int32)) (v_below2 : Int32) (v_dF2 : (Nat → Int32)) : MetW l yX2_multiply (WK yX2_multiply cX2_multiply 1 none) rmX2_multiply D (TYS cI cB) (wX2_multiply cI cB a_de a_ins a_mc a_me a_ps a_by a_ks a_rg a_d1 a_dg1 a_d2 a_dg2 a_src v_fb v_sb v_op v_i v_r v_s v_a v_b v_fault v_bF v_below1 v_dF1 v_below2 v_dF2) sz [.ref a_de] (qX2_multiply D cI cB a_de a_ins a_mc a_me a_ps a_by a_ks a_rg a_d1 a_dg1 a_d2 a_dg2 a_src v_fb v_sb v_op v_i v_r v_s v_a v_b v_fault v_bF v_below1 v_dF1 v_below2 v_dF2) 0 0 := by
  refine met_std (by decide) rfl (Nat.le_of_ble_eq_true rfl) ?_
  intro p e s m below meth c A ls H hx hb hr hml hown hts hlocks hA hP hK hD hS hNW hl
  have hl : lv_has ls 1 [(0, .ref a_de)] := hl
  have q_0 := hts _ (List.mem_cons_of_mem _ wd_193)
  have q_1 := hts _ (List.mem_cons_of_mem _ wd_217)
  have q_2 := hts _ (List.mem_cons_of_mem _ wd_218)
  have q_3 := hts _ (List.mem_cons_of_mem _ wd_194)
  have q_4 := hts _ (List.mem_cons_of_mem _ wd_190)
  have q_5 := hts _ (List.mem_cons_of_mem _ wd_189)
  have q_6 := hts _ (List.mem_cons_of_mem _ wd_188)
  have n_0 := hNW.f (A := ([.ref a_de] : List Value).toArray) ("MainframeCore$Decimals", 81, "MainframeCore$Decimal", "below", "Z", "MainframeCore") (by decide +kernel)
  have n_1 := hNW.f (A := ([.ref a_de] : List Value).toArray) ("MainframeCore$Decimals", 40, "MainframeCore$Instruction", "a", "I", "MainframeCore") (by decide +kernel)
  refine lv_aload_n hx hb dX2_multiply_0 rfl (lv_at hl 0 rfl) ?_
  refine va_get (D := D) (ci := 2) (v := .ref a_d1) (C := RX2) (T := TX2) (N := 8) hx hb hts in_X2 hown hK hP 0 rfl rfl 3 (by decide) q_0 (fun _ h9 => h9) rfl dX2_multiply_1 ?_
  refine lv_iconst (v := 2) hx hb dX2_multiply_4 (by decide) ?_
  refine lv_aload_n hx hb dX2_multiply_5 rfl (lv_at hl 0 rfl) ?_
  refine va_get (D := D) (ci := 2) (v := .int v_fb) (C := RX2) (T := TX2) (N := 8) hx hb hts in_X2 hown hK hP 0 rfl rfl 6 (by decide) q_1 (fun _ h9 => h9) rfl dX2_multiply_6 ?_
  refine lv_aload_n hx hb dX2_multiply_9 rfl (lv_at hl 0 rfl) ?_
  refine va_get (D := D) (ci := 2) (v := .int v_sb) (C := RX2) (T := TX2) (N := 8) hx hb hts in_X2 hown hK hP 0 rfl rfl 7 (by decide) q_2 (fun _ h9 => h9) rfl dX2_multiply_10 ?_
  refine lv_isub hx hb dX2_multiply_13 ?_
  refine lv_imul hx hb dX2_multiply_14 ?_
  refine lv_iconst (v := 1) hx hb dX2_multiply_15 (by decide) ?_
  refine lv_isub hx hb dX2_multiply_16 ?_
  have hPc : va_P D vwCl (wX1_isLongerThan cI cB a_d1 a_dg1 v_below1 v_dF1) H := hP.sub [5, 6] rfl
  have hDc : va_D A (wX1_isLongerThan cI cB a_d1 a_dg1 v_below1 v_dF1) := hD.sub [5, 6] (by decide) rfl
  have hFc := va_free (wc := (wX1_isLongerThan cI cB a_d1 a_dg1 v_below1 v_dF1)) hD hS hA [5, 6] rfl
  refine va_calli (va_runV (As := [.int (((2 * (v_fb - v_sb)) - 1))]) (rest := []) ⟨hx, hb, hml, hown, hts⟩ (kX1_isLongerThan l D cI cB a_d1 a_dg1 H.size v_below1 v_dF1 ((2 * (v_fb - v_sb)) - 1)) (cwV 1 hts (gd_V wd_244 wd_160 wd_161 wd_138 wd_153) rfl rfl rfl hdX1_isLongerThan ⟨Nat.le_of_ble_eq_true rfl, Nat.le_of_ble_eq_true rfl⟩) (preV_std (ci := 1) (q0 := 0) hPc hK hDc hNW rfl rfl) rfl rfl hl.1 rfl (lv_room (Nat.le_of_ble_eq_true rfl)) dX2_multiply_17 ⟨Nat.zero_le _, Nat.zero_le _⟩) hS (fun q _ h => hFc q h) hFc (fun r_17 u_17 t9 H1 locs ht9 hvm9 hw9 hB9 hz9 hk9 hS => ?_)
  have er_17 : r_17 = fX1_isLongerThan ((2 * (v_fb - v_sb)) - 1) v_dF1 := hw9
  have zr_17 : r_17 = 0 ∨ r_17 = 1 := by rw [er_17]; exact zX1_isLongerThan _ _
  obtain ⟨hP, hD⟩ := back_std (w1 := (wX1_isLongerThan cI cB a_d1 a_dg1 v_below1 v_dF1)) (w2 := (wX2_multiply cI cB a_de a_ins a_mc a_me a_ps a_by a_ks a_rg a_d1 a_dg1 a_d2 a_dg2 a_src v_fb v_sb v_op v_i v_r v_s v_a v_b v_fault v_bF v_below1 v_dF1 v_below2 v_dF2)) (wr := [(a_de, .inr (2, [.ref a_mc, .ref a_ins, .ref a_me, .ref a_d1, .ref a_d2, .ref a_src, .int v_fb, .int v_sb])), (a_ins, .inr (4, [.ref a_mc, .ref a_me, .int v_op, .int v_i, .int v_r, .int v_s, .int v_a, .int v_b])), (a_mc, .inr (5, [.ref a_me, .ref a_ps, .ref a_rg, .int v_fault])), (a_me, .inr (6, [.ref a_by, .ref a_ks])), (a_by, .inl (cB, 8192, .inl v_bF)), (a_d2, .inr (1, [.ref a_dg2, .int v_below2])), (a_dg2, .inl (cI, 32, .inl v_dF2))]) hP hD [5, 6] [0, 1, 2, 3, 4, 7, 8] [0, 1, 2, 3, 4, 7, 8, 5, 6] rfl rfl (by decide) (by decide) hk9 hFc hB9 ht9 (by decide) rfl
  clear hB9 hk9 hz9 hvm9 ht9 hFc hPc hDc
  generalize H1 = H at hP hS ⊢
  refine lv_if_eq (tgt := 33) hx hb dX2_multiply_20 (by decide) (fun c_20 => ?_) (fun c_20 => ?_)
  · skip
    refine lv_aload_n hx hb dX2_multiply_33 rfl (lv_at hl 0 rfl) ?_
    refine va_get (D := D) (ci := 2) (v := .ref a_d1) (C := RX2) (T := TX2) (N := 8) hx hb hts in_X2 hown hK hP 0 rfl rfl 3 (by decide) q_0 (fun _ h9 => h9) rfl dX2_multiply_34 ?_
    refine lv_aload_n hx hb dX2_multiply_37 rfl (lv_at hl 0 rfl) ?_
    refine va_get (D := D) (ci := 2) (v := .ref a_d2) (C := RX2) (T := TX2) (N := 8) hx hb hts in_X2 hown hK hP 0 rfl rfl 4 (by decide) q_3 (fun _ h9 => h9) rfl dX2_multiply_38 ?_
    have hPc : va_P D vwCl (wX1_size cI cB a_d2 a_dg2 v_below2 v_dF2) H := hP.sub [7, 8] rfl
    have hDc : va_D A (wX1_size cI cB a_d2 a_dg2 v_below2 v_dF2) := hD.sub [7, 8] (by decide) rfl
    have hFc := va_free (wc := (wX1_size cI cB a_d2 a_dg2 v_below2 v_dF2)) hD hS hA [7, 8] rfl
    refine va_calll (va_runV (As := []) (rest := [.ref a_d1]) ⟨hx, hb, hml, hown, hts⟩ (kX1_size l D cI cB a_d2 a_dg2 H.size v_below2 v_dF2 ) (cwV 0 hts (gd_V wd_212 wd_213 wd_214 wd_138 wd_167) rfl rfl rfl hdX1_size ⟨Nat.le_of_ble_eq_true rfl, Nat.le_of_ble_eq_true rfl⟩) (preV_std (ci := 1) (q0 := 0) hPc hK hDc hNW rfl rfl) rfl rfl hl.1 rfl (lv_room (Nat.le_of_ble_eq_true rfl)) dX2_multiply_41 ⟨Nat.zero_le _, Nat.zero_le _⟩) hS (fun q _ h => hFc q h) hFc (fun r_41 u_41 t9 H1 locs ht9 hvm9 hw9 hB9 hz9 hk9 hS => ?_)
    have er_41 : r_41 = fX1_size v_dF2 := hw9
    obtain ⟨hP, hD⟩ := back_std (w1 := (wX1_size cI cB a_d2 a_dg2 v_below2 v_dF2)) (w2 := (wX2_multiply cI cB a_de a_ins a_mc a_me a_ps a_by a_ks a_rg a_d1 a_dg1 a_d2 a_dg2 a_src v_fb v_sb v_op v_i v_r v_s v_a v_b v_fault v_bF v_below1 v_dF1 v_below2 v_dF2)) (wr := [(a_de, .inr (2, [.ref a_mc, .ref a_ins, .ref a_me, .ref a_d1, .ref a_d2, .ref a_src, .int v_fb, .int v_sb])), (a_ins, .inr (4, [.ref a_mc, .ref a_me, .int v_op, .int v_i, .int v_r, .int v_s, .int v_a, .int v_b])), (a_mc, .inr (5, [.ref a_me, .ref a_ps, .ref a_rg, .int v_fault])), (a_me, .inr (6, [.ref a_by, .ref a_ks])), (a_by, .inl (cB, 8192, .inl v_bF)), (a_d1, .inr (1, [.ref a_dg1, .int v_below1])), (a_dg1, .inl (cI, 32, .inl v_dF1))]) hP hD [7, 8] [0, 1, 2, 3, 4, 5, 6] [0, 1, 2, 3, 4, 5, 6, 7, 8] rfl rfl (by decide) (by decide) hk9 hFc hB9 ht9 (by decide) rfl
    clear hB9 hk9 hz9 hvm9 ht9 hFc hPc hDc
    generalize H1 = H at hP hS ⊢
    have hPc : va_P D vwCl (wX1_multiply cI cB a_d1 a_dg1 v_below1 v_dF1) H := hP.sub [5, 6] rfl
    have hDc : va_D A (wX1_multiply cI cB a_d1 a_dg1 v_below1 v_dF1) := hD.sub [5, 6] (by decide) rfl
    have hFc := va_free (wc := (wX1_multiply cI cB a_d1 a_dg1 v_below1 v_dF1)) hD hS hA [5, 6] rfl
    refine va_callv (va_runV (As := [.long r_41]) (rest := []) ⟨hx, hb, hml, hown, hts⟩ (kX1_multiply l D cI cB a_d1 a_dg1 H.size v_below1 v_dF1 r_41) (cwV 1 hts (gd_V wd_265 wd_266 wd_267 wd_138 wd_184) rfl rfl rfl hdX1_multiply ⟨Nat.le_of_ble_eq_true rfl, Nat.le_of_ble_eq_true rfl⟩) (preV_std (ci := 1) (q0 := 0) hPc hK hDc hNW rfl rfl) rfl rfl hl.1 rfl (lv_room (Nat.le_of_ble_eq_true rfl)) dX2_multiply_44 ⟨Nat.zero_le _, Nat.zero_le _⟩) hS (fun q _ h => hFc q h) hFc (fun u_44 t9 H1 locs ht9 hvm9 hw9 hB9 hz9 hk9 hS => ?_)
    have eu_44 : u_44 = fX1_multiply r_41 v_dF1 := hw9
    obtain ⟨hP, hD⟩ := back_std (w1 := (wX1_multiply cI cB a_d1 a_dg1 v_below1 u_44)) (w2 := (wX2_multiply cI cB a_de a_ins a_mc a_me a_ps a_by a_ks a_rg a_d1 a_dg1 a_d2 a_dg2 a_src v_fb v_sb v_op v_i v_r v_s v_a v_b v_fault v_bF v_below1 u_44 v_below2 v_dF2)) (wr := [(a_de, .inr (2, [.ref a_mc, .ref a_ins, .ref a_me, .ref a_d1, .ref a_d2, .ref a_src, .int v_fb, .int v_sb])), (a_ins, .inr (4, [.ref a_mc, .ref a_me, .int v_op, .int v_i, .int v_r, .int v_s, .int v_a, .int v_b])), (a_mc, .inr (5, [.ref a_me, .ref a_ps, .ref a_rg, .int v_fault])), (a_me, .inr (6, [.ref a_by, .ref a_ks])), (a_by, .inl (cB, 8192, .inl v_bF)), (a_d2, .inr (1, [.ref a_dg2, .int v_below2])), (a_dg2, .inl (cI, 32, .inl v_dF2))]) hP hD [5, 6] [0, 1, 2, 3, 4, 7, 8] [0, 1, 2, 3, 4, 7, 8, 5, 6] rfl rfl (by decide) (by decide) hk9 hFc hB9 ht9 (by decide) rfl
    clear hB9 hk9 hz9 hvm9 ht9 hFc hPc hDc
    generalize H1 = H at hP hS ⊢
    refine lv_aload_n hx hb dX2_multiply_47 rfl (lv_at hl 0 rfl) ?_
    refine va_get (D := D) (ci := 2) (v := .ref a_d1) (C := RX2) (T := TX2) (N := 8) hx hb hts in_X2 hown hK hP 0 rfl rfl 3 (by decide) q_0 (fun _ h9 => h9) rfl dX2_multiply_48 ?_
    refine lv_aload_n hx hb dX2_multiply_51 rfl (lv_at hl 0 rfl) ?_
    refine va_get (D := D) (ci := 2) (v := .ref a_d1) (C := RX2) (T := TX2) (N := 8) hx hb hts in_X2 hown hK hP 0 rfl rfl 3 (by decide) q_0 (fun _ h9 => h9) rfl dX2_multiply_52 ?_
    refine va_getN (D := D) (ci := 1) (v := .int v_below1) (C := RX1) (T := TX1) (N := 2) hx hb hts in_X1 hown hK hP 5 rfl rfl 1 (by decide) n_0 (fun _ h9 => h9) rfl dX2_multiply_55 ?_
    refine lv_aload_n hx hb dX2_multiply_58 rfl (lv_at hl 0 rfl) ?_
    refine va_get (D := D) (ci := 2) (v := .ref a_d2) (C := RX2) (T := TX2) (N := 8) hx hb hts in_X2 hown hK hP 0 rfl rfl 4 (by decide) q_3 (fun _ h9 => h9) rfl dX2_multiply_59 ?_
    refine va_getN (D := D) (ci := 1) (v := .int v_below2) (C := RX1) (T := TX1) (N := 2) hx hb hts in_X1 hown hK hP 7 rfl rfl 1 (by decide) n_0 (fun _ h9 => h9) rfl dX2_multiply_62 ?_
    have J_73 : ∀ (m_73 : Int32), m_73 = (if v_below1 = v_below2 then (0) else (1)) → ∀ (H : Heap) (locs : List Loc), va_P D vwCl (wX2_multiply cI cB a_de a_ins a_mc a_me a_ps a_by a_ks a_rg a_d1 a_dg1 a_d2 a_dg2 a_src v_fb v_sb v_op v_i v_r v_s v_a v_b v_fault v_bF v_below1 u_44 v_below2 v_dF2) H → va_D A (wX2_multiply cI cB a_de a_ins a_mc a_me a_ps a_by a_ks a_rg a_d1 a_dg1 a_d2 a_dg2 a_src v_fb v_sb v_op v_i v_r v_s v_a v_b v_fault v_bF v_below1 u_44 v_below2 v_dF2) → va_S A s.heap H locs → ∀ (ls : Array Slot), lv_has ls 1 [(0, .ref a_de)] → W p l e rmX2_multiply s m ([.ref a_de] : List Value).toArray below meth c H locs 0 0 (MQ below (qX2_multiply D cI cB a_de a_ins a_mc a_me a_ps a_by a_ks a_rg a_d1 a_dg1 a_d2 a_dg2 a_src v_fb v_sb v_op v_i v_r v_s v_a v_b v_fault v_bF v_below1 v_dF1 v_below2 v_dF2 A) ([.ref a_de] : List Value).toArray s 0 0 A) (F0 m 73 ls [.int m_73, .ref a_d1]) := by
      intro m_73 em_73 H locs hP hD hS ls hl
      try dsimp only at em_73
      have zm_73_0 : m_73 = 0 ∨ m_73 = 1 := by rw [em_73]; (try dsimp only); (repeat' split) <;> first | exact Or.inl rfl | exact Or.inr rfl
      refine va_putN (D := D) (ci := 1) (v := .int m_73) (ty := .boolean) (C := RX1) (T := TX1) (N := 2) hx hb hts in_X1 tyX1 tyX1_ok nmX1 hown hK hP hD hS 5 rfl rfl 1 (by decide) n_0 (fun _ h9 => h9) rfl (by decide +kernel) (zb_narrow (by with_reducible assumption)) (zb_fits (by with_reducible assumption)) (Nat.le_of_ble_eq_true rfl) dX2_multiply_73 (fun H locs hP hD hS => ?_)
      have hP : va_P D vwCl (wX2_multiply cI cB a_de a_ins a_mc a_me a_ps a_by a_ks a_rg a_d1 a_dg1 a_d2 a_dg2 a_src v_fb v_sb v_op v_i v_r v_s v_a v_b v_fault v_bF m_73 u_44 v_below2 v_dF2) H := hP
      have hD : va_D A (wX2_multiply cI cB a_de a_ins a_mc a_me a_ps a_by a_ks a_rg a_d1 a_dg1 a_d2 a_dg2 a_src v_fb v_sb v_op v_i v_r v_s v_a v_b v_fault v_bF m_73 u_44 v_below2 v_dF2) := hD
      refine lv_aload_n hx hb dX2_multiply_76 rfl (lv_at hl 0 rfl) ?_
      refine va_get (D := D) (ci := 2) (v := .ref a_d1) (C := RX2) (T := TX2) (N := 8) hx hb hts in_X2 hown hK hP 0 rfl rfl 3 (by decide) q_0 (fun _ h9 => h9) rfl dX2_multiply_77 ?_
      refine lv_aload_n hx hb dX2_multiply_80 rfl (lv_at hl 0 rfl) ?_
      refine va_get (D := D) (ci := 2) (v := .ref a_me) (C := RX2) (T := TX2) (N := 8) hx hb hts in_X2 hown hK hP 0 rfl rfl 2 (by decide) q_4 (fun _ h9 => h9) rfl dX2_multiply_81 ?_
      refine lv_aload_n hx hb dX2_multiply_84 rfl (lv_at hl 0 rfl) ?_
      refine va_get (D := D) (ci := 2) (v := .ref a_ins) (C := RX2) (T := TX2) (N := 8) hx hb hts in_X2 hown hK hP 0 rfl rfl 1 (by decide) q_5 (fun _ h9 => h9) rfl dX2_multiply_85 ?_
      refine va_getN (D := D) (ci := 4) (v := .int v_a) (C := RX4) (T := TX4) (N := 8) hx hb hts in_X4 hown hK hP 1 rfl rfl 6 (by decide) n_1 (fun _ h9 => h9) rfl dX2_multiply_88 ?_
      refine lv_aload_n hx hb dX2_multiply_91 rfl (lv_at hl 0 rfl) ?_
      refine va_get (D := D) (ci := 2) (v := .int v_fb) (C := RX2) (T := TX2) (N := 8) hx hb hts in_X2 hown hK hP 0 rfl rfl 6 (by decide) q_1 (fun _ h9 => h9) rfl dX2_multiply_92 ?_
      have hPc : va_P D vwCl (wX1_give cI cB a_me a_by a_ks a_d1 a_dg1 v_bF m_73 u_44) H := hP.sub [3, 4, 5, 6] rfl
      have hDc : va_D A (wX1_give cI cB a_me a_by a_ks a_d1 a_dg1 v_bF m_73 u_44) := hD.sub [3, 4, 5, 6] (by decide) rfl
      have hFc := va_free (wc := (wX1_give cI cB a_me a_by a_ks a_d1 a_dg1 v_bF m_73 u_44)) hD hS hA [3, 4, 5, 6] rfl
      refine va_callv (va_runV (As := [.ref a_me, .int v_a, .int v_fb]) (rest := []) ⟨hx, hb, hml, hown, hts⟩ (kX1_give l D cI cB a_me a_by a_ks a_d1 a_dg1 H.size v_bF m_73 u_44 v_a v_fb) (cwV 3 hts (gd_V wd_204 wd_205 wd_206 wd_138 wd_146) rfl rfl rfl hdX1_give ⟨Nat.le_of_ble_eq_true rfl, Nat.le_of_ble_eq_true rfl⟩) (preV_std (ci := 1) (q0 := 2) hPc hK hDc hNW rfl rfl) rfl rfl hl.1 rfl (lv_room (Nat.le_of_ble_eq_true rfl)) dX2_multiply_95 ⟨Nat.zero_le _, Nat.zero_le _⟩) hS (fun q _ h => hFc q h) hFc (fun u_95 t9 H1 locs ht9 hvm9 hw9 hB9 hz9 hk9 hS => ?_)
      have eu_95 : u_95 = fX1_give v_a v_fb v_bF m_73 u_44 := hw9
      obtain ⟨hP, hD⟩ := back_std (w1 := (wX1_give cI cB a_me a_by a_ks a_d1 a_dg1 u_95 m_73 u_44)) (w2 := (wX2_multiply cI cB a_de a_ins a_mc a_me a_ps a_by a_ks a_rg a_d1 a_dg1 a_d2 a_dg2 a_src v_fb v_sb v_op v_i v_r v_s v_a v_b v_fault u_95 m_73 u_44 v_below2 v_dF2)) (wr := [(a_de, .inr (2, [.ref a_mc, .ref a_ins, .ref a_me, .ref a_d1, .ref a_d2, .ref a_src, .int v_fb, .int v_sb])), (a_ins, .inr (4, [.ref a_mc, .ref a_me, .int v_op, .int v_i, .int v_r, .int v_s, .int v_a, .int v_b])), (a_mc, .inr (5, [.ref a_me, .ref a_ps, .ref a_rg, .int v_fault])), (a_d2, .inr (1, [.ref a_dg2, .int v_below2])), (a_dg2, .inl (cI, 32, .inl v_dF2))]) hP hD [3, 4, 5, 6] [0, 1, 2, 7, 8] [0, 1, 2, 5, 6, 7, 8, 3, 4] rfl rfl (by decide) (by decide) hk9 hFc hB9 ht9 (by decide) rfl
      clear hB9 hk9 hz9 hvm9 ht9 hFc hPc hDc
      generalize H1 = H at hP hS ⊢
      have hf9 : (v_fault, u_95, m_73, u_44) = fX2_multiply v_fb v_sb v_a v_fault v_bF v_below1 v_dF1 v_below2 v_dF2 := by simp only [fX2_multiply, ← er_17, ← er_41, ← eu_44, ← em_73, ← eu_95]; (try simp only [if_pos c_20])
      exact W.vret hx hb hr (fun t9 ht9 hW9 => ⟨⟨(v_fault, u_95, m_73, u_44), rfl, hf9, ⟨by rw [ht9]; exact hP, va_K.moved hW9.alike hK, hD⟩⟩, hS.F ht9⟩) hS.2.2 dX2_multiply_98
    refine lv_icmp_eq (tgt := 72) hx hb dX2_multiply_65 (by decide) (fun c_65 => ?_) (fun c_65 => ?_)
    · skip
      refine lv_iconst (v := 0) hx hb dX2_multiply_72 (by decide) ?_
      exact J_73 0 (by (try simp only [if_pos c_65])) _ _ hP hD hS ls (lv_sub hl [0] rfl)
    · skip
      refine lv_iconst (v := 1) hx hb dX2_multiply_68 (by decide) ?_
      refine lv_goto (tgt := 73) hx hb dX2_multiply_69 (by decide) ?_
      exact J_73 1 (by (try simp only [if_neg c_65])) _ _ hP hD hS ls (lv_sub hl [0] rfl)
  · skip
    refine lv_aload_n hx hb dX2_multiply_23 rfl (lv_at hl 0 rfl) ?_
    refine va_get (D := D) (ci := 2) (v := .ref a_mc) (C := RX2) (T := TX2) (N := 8) hx hb hts in_X2 hown hK hP 0 rfl rfl 0 (by decide) q_6 (fun _ h9 => h9) rfl dX2_multiply_24 ?_
    refine lv_bipush (v := 7) hx hb dX2_multiply_27 (by decide) ?_
    have hPc : va_P D vwCl (wX5_fail cI cB a_mc a_me a_ps a_rg v_fault) H := hP.sub [2] rfl
    have hDc : va_D A (wX5_fail cI cB a_mc a_me a_ps a_rg v_fault) := hD.sub [2] (by decide) rfl
    have hFc := va_free (wc := (wX5_fail cI cB a_mc a_me a_ps a_rg v_fault)) hD hS hA [2] rfl
    refine va_callv (va_runV (As := [.int 7]) (rest := []) ⟨hx, hb, hml, hown, hts⟩ (kX5_fail l D cI cB a_mc a_me a_ps a_rg H.size v_fault 7) (cwV 1 hts (gd_V wd_211 wd_54 wd_55 wd_24 wd_46) rfl rfl rfl hdX5_fail ⟨Nat.le_of_ble_eq_true rfl, Nat.le_of_ble_eq_true rfl⟩) (preV_std (ci := 5) (q0 := 0) hPc hK hDc hNW rfl rfl) rfl rfl hl.1 rfl (lv_room (Nat.le_of_ble_eq_true rfl)) dX2_multiply_29 ⟨Nat.zero_le _, Nat.zero_le _⟩) hS (fun q _ h => hFc q h) hFc (fun u_29 t9 H1 locs ht9 hvm9 hw9 hB9 hz9 hk9 hS => ?_)
    have eu_29 : u_29 = fX5_fail 7 v_fault := hw9
    obtain ⟨hP, hD⟩ := back_std (w1 := (wX5_fail cI cB a_mc a_me a_ps a_rg u_29)) (w2 := (wX2_multiply cI cB a_de a_ins a_mc a_me a_ps a_by a_ks a_rg a_d1 a_dg1 a_d2 a_dg2 a_src v_fb v_sb v_op v_i v_r v_s v_a v_b u_29 v_bF v_below1 v_dF1 v_below2 v_dF2)) (wr := [(a_de, .inr (2, [.ref a_mc, .ref a_ins, .ref a_me, .ref a_d1, .ref a_d2, .ref a_src, .int v_fb, .int v_sb])), (a_ins, .inr (4, [.ref a_mc, .ref a_me, .int v_op, .int v_i, .int v_r, .int v_s, .int v_a, .int v_b])), (a_me, .inr (6, [.ref a_by, .ref a_ks])), (a_by, .inl (cB, 8192, .inl v_bF)), (a_d1, .inr (1, [.ref a_dg1, .int v_below1])), (a_dg1, .inl (cI, 32, .inl v_dF1)), (a_d2, .inr (1, [.ref a_dg2, .int v_below2])), (a_dg2, .inl (cI, 32, .inl v_dF2))]) hP hD [2] [0, 1, 3, 4, 5, 6, 7, 8] [0, 1, 8, 2, 3, 4, 5, 6, 7] rfl rfl (by decide) (by decide) hk9 hFc hB9 ht9 (by decide) rfl
    clear hB9 hk9 hz9 hvm9 ht9 hFc hPc hDc
    generalize H1 = H at hP hS ⊢
    have hf9 : (u_29, v_bF, v_below1, v_dF1) = fX2_multiply v_fb v_sb v_a v_fault v_bF v_below1 v_dF1 v_below2 v_dF2 := by simp only [fX2_multiply, ← er_17, ← eu_29]; (try simp only [if_neg c_20])
    exact W.vret hx hb hr (fun t9 ht9 hW9 => ⟨⟨(u_29, v_bF, v_below1, v_dF1), rfl, hf9, ⟨by rw [ht9]; exact hP, va_K.moved hW9.alike hK, hD⟩⟩, hS.F ht9⟩) hS.2.2 dX2_multiply_32
theorem hdX2_multiply : yX2_multiply.cls = RX2 ∧ yX2_multiply.cls ≠ "java/lang/invoke/MethodHandle" ∧ yX2_multiply.cls ≠ "java/lang/invoke/VarHandle" ∧ (parseMethodDescriptor yX2_multiply.desc).map (fun d => d.parameters.length) = some 0 := by decide +kernel
noncomputable def fX2_divide (v_fb : Int32) (v_sb : Int32) (v_a : Int32) (v_fault : Int32) (v_bF : (Nat → Int32)) (v_below1 : Int32) (v_dF1 : (Nat → Int32)) (v_below2 : Int32) (v_dF2 : (Nat → Int32)) : (Int32 × (Nat → Int32) × Int32 × (Nat → Int32) × Int32 × (Nat → Int32)) :=
  let x_9 := (v_fb - v_sb)
  let r_22 := fX1_sign v_below2 v_dF2
  let m_33 : Int32 := (if r_22 = 0 then (0) else (1))
  let r_42 := fX1_size v_dF2
  let p_45 := fX1_divide r_42 v_dF1
  let r_45 := p_45.1
  let u_45 := p_45.2
  if m_33 = 0 then (let u_75 := fX5_fail 11 v_fault; (u_75, v_bF, v_below1, u_45, v_below2, v_dF2)) else (let r_63 := fX1_isLongerThan ((2 * x_9) - 1) u_45; if r_63 = 0 then (let m_105 : Int32 := (if v_below1 = v_below2 then (0) else (1)); let u_124 := fX1_give v_a x_9 v_bF m_105 u_45; let u_133 := fX1_setNumber r_45 v_below2 v_dF2; let u_165 := fX1_give (v_a + x_9) v_sb u_124 v_below1 u_133.2; (v_fault, u_165, m_105, u_45, v_below1, u_133.2)) else (let u_75 := fX5_fail 11 v_fault; (u_75, v_bF, v_below1, u_45, v_below2, v_dF2)))
abbrev wX2_divide (cI cB : ClassId) (a_de a_ins a_mc a_me a_ps a_by a_ks a_rg a_d1 a_dg1 a_d2 a_dg2 a_src : Nat) (v_fb : Int32) (v_sb : Int32) (v_op : Int32) (v_i : Int32) (v_r : Int32) (v_s : Int32) (v_a : Int32) (v_b : Int32) (v_fault : Int32) (v_bF : (Nat → Int32)) (v_below1 : Int32) (v_dF1 : (Nat → Int32)) (v_below2 : Int32) (v_dF2 : (Nat → Int32)) : va_W := [(a_de, .inr (2, [.ref a_mc, .ref a_ins, .ref a_me, .ref a_d1, .ref a_d2, .ref a_src, .int v_fb, .int v_sb])), (a_ins, .inr (4, [.ref a_mc, .ref a_me, .int v_op, .int v_i, .int v_r, .int v_s, .int v_a, .int v_b])), (a_mc, .inr (5, [.ref a_me, .ref a_ps, .ref a_rg, .int v_fault])), (a_me, .inr (6, [.ref a_by, .ref a_ks])), (a_by, .inl (cB, 8192, .inl v_bF)), (a_d1, .inr (1, [.ref a_dg1, .int v_below1])), (a_dg1, .inl (cI, 32, .inl v_dF1)), (a_d2, .inr (1, [.ref a_dg2, .int v_below2])), (a_dg2, .inl (cI, 32, .inl v_dF2))]
abbrev rmX2_divide : Room := { frames := 3, cells := 0, slots := 0, locals := 64 }
abbrev qX2_divide (D : va_G) (cI cB : ClassId) (a_de a_ins a_mc a_me a_ps a_by a_ks a_rg a_d1 a_dg1 a_d2 a_dg2 a_src : Nat) (v_fb : Int32) (v_sb : Int32) (v_op : Int32) (v_i : Int32) (v_r : Int32) (v_s : Int32) (v_a : Int32) (v_b : Int32) (v_fault : Int32) (v_bF : (Nat → Int32)) (v_below1 : Int32) (v_dF1 : (Nat → Int32)) (v_below2 : Int32) (v_dF2 : (Nat → Int32)) : (Nat → Prop) → Array Value → State → Outcome → State → Prop := fun A9 => va_Qv (fun (u9 : (Int32 × (Nat → Int32) × Int32 × (Nat → Int32) × Int32 × (Nat → Int32))) => u9 = fX2_divide v_fb v_sb v_a v_fault v_bF v_below1 v_dF1 v_below2 v_dF2) (fun u9 t9 => atW D (TYS cI cB) A9 (wX2_divide cI cB a_de a_ins a_mc a_me a_ps a_by a_ks a_rg a_d1 a_dg1 a_d2 a_dg2 a_src v_fb v_sb v_op v_i v_r v_s v_a v_b u9.1 u9.2.1 u9.2.2.1 u9.2.2.2.1 u9.2.2.2.2.1 u9.2.2.2.2.2) t9) A9
set_option maxHeartbeats 4000000 in
set_option maxRecDepth 100000 in
theorem kX2_divide (l : Launch) (D : va_G) (cI cB : ClassId) (a_de a_ins a_mc a_me a_ps a_by a_ks a_rg a_d1 a_dg1 a_d2 a_dg2 a_src : Nat) (sz : Nat) (v_fb : Int32) (v_sb : Int32) (v_op : Int32) (v_i : Int32) (v_r : Int32) (v_s : Int32) (v_a : Int32) (v_b : Int32) (v_fault : Int32) (v_bF : (Nat → Int32)) (v_below1 : Int32) (v_dF1 : (Nat → Int32)) (v_below2 : Int32) (v_dF2 : (Nat → Int32)) (hz1 : v_below1 = 0 ∨ v_below1 = 1) : MetW l yX2_divide (WK yX2_divide cX2_divide 6 none) rmX2_divide D (TYS cI cB) (wX2_divide cI cB a_de a_ins a_mc a_me a_ps a_by a_ks a_rg a_d1 a_dg1 a_d2 a_dg2 a_src v_fb v_sb v_op v_i v_r v_s v_a v_b v_fault v_bF v_below1 v_dF1 v_below2 v_dF2) sz [.ref a_de] (qX2_divide D cI cB a_de a_ins a_mc a_me a_ps a_by a_ks a_rg a_d1 a_dg1 a_d2 a_dg2 a_src v_fb v_sb v_op v_i v_r v_s v_a v_b v_fault v_bF v_below1 v_dF1 v_below2 v_dF2) 0 0 := by
  refine met_std (by decide) rfl (Nat.le_of_ble_eq_true rfl) ?_
  intro p e s m below meth c A ls H hx hb hr hml hown hts hlocks hA hP hK hD hS hNW hl
  have hl : lv_has ls 6 [(0, .ref a_de)] := hl
  have q_0 := hts _ (List.mem_cons_of_mem _ wd_217)
  have q_1 := hts _ (List.mem_cons_of_mem _ wd_218)
  have q_2 := hts _ (List.mem_cons_of_mem _ wd_193)
  have q_3 := hts _ (List.mem_cons_of_mem _ wd_194)
  have q_4 := hts _ (List.mem_cons_of_mem _ wd_188)
  have q_5 := hts _ (List.mem_cons_of_mem _ wd_190)
  have q_6 := hts _ (List.mem_cons_of_mem _ wd_189)
  have n_0 := hNW.f (A := ([.ref a_de] : List Value).toArray) ("MainframeCore$Decimals", 81, "MainframeCore$Decimal", "below", "Z", "MainframeCore") (by decide +kernel)
  have n_1 := hNW.f (A := ([.ref a_de] : List Value).toArray) ("MainframeCore$Decimals", 40, "MainframeCore$Instruction", "a", "I", "MainframeCore") (by decide +kernel)
  refine lv_aload_n hx hb dX2_divide_0 rfl (lv_at hl 0 rfl) ?_
  refine va_get (D := D) (ci := 2) (v := .int v_fb) (C := RX2) (T := TX2) (N := 8) hx hb hts in_X2 hown hK hP 0 rfl rfl 6 (by decide) q_0 (fun _ h9 => h9) rfl dX2_divide_1 ?_
  refine lv_aload_n hx hb dX2_divide_4 rfl (lv_at hl 0 rfl) ?_
  refine va_get (D := D) (ci := 2) (v := .int v_sb) (C := RX2) (T := TX2) (N := 8) hx hb hts in_X2 hown hK hP 0 rfl rfl 7 (by decide) q_1 (fun _ h9 => h9) rfl dX2_divide_5 ?_
  refine lv_isub hx hb dX2_divide_8 ?_
  refine lv_topi (fun x_9 ex_9 => ?_)
  refine lv_istore_n (lv' := [(1, .int x_9), (0, .ref a_de)]) hx hb dX2_divide_9 rfl hl (by decide) rfl (fun ls hl => ?_)
  refine lv_aload_n hx hb dX2_divide_10 rfl (lv_at hl 1 rfl) ?_
  refine va_get (D := D) (ci := 2) (v := .ref a_d1) (C := RX2) (T := TX2) (N := 8) hx hb hts in_X2 hown hK hP 0 rfl rfl 3 (by decide) q_2 (fun _ h9 => h9) rfl dX2_divide_11 ?_
  refine va_getN (D := D) (ci := 1) (v := .int v_below1) (C := RX1) (T := TX1) (N := 2) hx hb hts in_X1 hown hK hP 5 rfl rfl 1 (by decide) n_0 (fun _ h9 => h9) rfl dX2_divide_14 ?_
  refine lv_istore_n (lv' := [(2, .int v_below1), (1, .int x_9), (0, .ref a_de)]) hx hb dX2_divide_17 rfl hl (by decide) rfl (fun ls hl => ?_)
  refine lv_aload_n hx hb dX2_divide_18 rfl (lv_at hl 2 rfl) ?_
  refine va_get (D := D) (ci := 2) (v := .ref a_d2) (C := RX2) (T := TX2) (N := 8) hx hb hts in_X2 hown hK hP 0 rfl rfl 4 (by decide) q_3 (fun _ h9 => h9) rfl dX2_divide_19 ?_
  have hPc : va_P D vwCl (wX1_sign cI cB a_d2 a_dg2 v_below2 v_dF2) H := hP.sub [7, 8] rfl
  have hDc : va_D A (wX1_sign cI cB a_d2 a_dg2 v_below2 v_dF2) := hD.sub [7, 8] (by decide) rfl
  have hFc := va_free (wc := (wX1_sign cI cB a_d2 a_dg2 v_below2 v_dF2)) hD hS hA [7, 8] rfl
  refine va_calli (va_runV (As := []) (rest := []) ⟨hx, hb, hml, hown, hts⟩ (kX1_sign l D cI cB a_d2 a_dg2 H.size v_below2 v_dF2 ) (cwV 0 hts (gd_V wd_248 wd_249 wd_250 wd_138 wd_158) rfl rfl rfl hdX1_sign ⟨Nat.le_of_ble_eq_true rfl, Nat.le_of_ble_eq_true rfl⟩) (preV_std (ci := 1) (q0 := 0) hPc hK hDc hNW rfl rfl) rfl rfl hl.1 rfl (lv_room (Nat.le_of_ble_eq_true rfl)) dX2_divide_22 ⟨Nat.zero_le _, Nat.zero_le _⟩) hS (fun q _ h => hFc q h) hFc (fun r_22 u_22 t9 H1 locs ht9 hvm9 hw9 hB9 hz9 hk9 hS => ?_)
  have er_22 : r_22 = fX1_sign v_below2 v_dF2 := hw9
  obtain ⟨hP, hD⟩ := back_std (w1 := (wX1_sign cI cB a_d2 a_dg2 v_below2 v_dF2)) (w2 := (wX2_divide cI cB a_de a_ins a_mc a_me a_ps a_by a_ks a_rg a_d1 a_dg1 a_d2 a_dg2 a_src v_fb v_sb v_op v_i v_r v_s v_a v_b v_fault v_bF v_below1 v_dF1 v_below2 v_dF2)) (wr := [(a_de, .inr (2, [.ref a_mc, .ref a_ins, .ref a_me, .ref a_d1, .ref a_d2, .ref a_src, .int v_fb, .int v_sb])), (a_ins, .inr (4, [.ref a_mc, .ref a_me, .int v_op, .int v_i, .int v_r, .int v_s, .int v_a, .int v_b])), (a_mc, .inr (5, [.ref a_me, .ref a_ps, .ref a_rg, .int v_fault])), (a_me, .inr (6, [.ref a_by, .ref a_ks])), (a_by, .inl (cB, 8192, .inl v_bF)), (a_d1, .inr (1, [.ref a_dg1, .int v_below1])), (a_dg1, .inl (cI, 32, .inl v_dF1))]) hP hD [7, 8] [0, 1, 2, 3, 4, 5, 6] [0, 1, 2, 3, 4, 5, 6, 7, 8] rfl rfl (by decide) (by decide) hk9 hFc hB9 ht9 (by decide) rfl
  clear hB9 hk9 hz9 hvm9 ht9 hFc hPc hDc
  generalize H1 = H at hP hS ⊢
  have J_33 : ∀ (m_33 : Int32), m_33 = (if r_22 = 0 then (0) else (1)) → ∀ (H : Heap) (locs : List Loc), va_P D vwCl (wX2_divide cI cB a_de a_ins a_mc a_me a_ps a_by a_ks a_rg a_d1 a_dg1 a_d2 a_dg2 a_src v_fb v_sb v_op v_i v_r v_s v_a v_b v_fault v_bF v_below1 v_dF1 v_below2 v_dF2) H → va_D A (wX2_divide cI cB a_de a_ins a_mc a_me a_ps a_by a_ks a_rg a_d1 a_dg1 a_d2 a_dg2 a_src v_fb v_sb v_op v_i v_r v_s v_a v_b v_fault v_bF v_below1 v_dF1 v_below2 v_dF2) → va_S A s.heap H locs → ∀ (ls : Array Slot), lv_has ls 6 [(0, .ref a_de), (1, .int x_9), (2, .int v_below1)] → W p l e rmX2_divide s m ([.ref a_de] : List Value).toArray below meth c H locs 0 0 (MQ below (qX2_divide D cI cB a_de a_ins a_mc a_me a_ps a_by a_ks a_rg a_d1 a_dg1 a_d2 a_dg2 a_src v_fb v_sb v_op v_i v_r v_s v_a v_b v_fault v_bF v_below1 v_dF1 v_below2 v_dF2 A) ([.ref a_de] : List Value).toArray s 0 0 A) (F0 m 33 ls [.int m_33]) := by
    intro m_33 em_33 H locs hP hD hS ls hl
    try dsimp only at em_33
    have zm_33_0 : m_33 = 0 ∨ m_33 = 1 := by rw [em_33]; (try dsimp only); (repeat' split) <;> first | exact Or.inl rfl | exact Or.inr rfl
    refine lv_istore_n (lv' := [(3, .int m_33), (0, .ref a_de), (1, .int x_9), (2, .int v_below1)]) hx hb dX2_divide_33 rfl hl (by decide) rfl (fun ls hl => ?_)
    refine lv_aload_n hx hb dX2_divide_34 rfl (lv_at hl 1 rfl) ?_
    refine va_get (D := D) (ci := 2) (v := .ref a_d1) (C := RX2) (T := TX2) (N := 8) hx hb hts in_X2 hown hK hP 0 rfl rfl 3 (by decide) q_2 (fun _ h9 => h9) rfl dX2_divide_35 ?_
    refine lv_aload_n hx hb dX2_divide_38 rfl (lv_at hl 1 rfl) ?_
    refine va_get (D := D) (ci := 2) (v := .ref a_d2) (C := RX2) (T := TX2) (N := 8) hx hb hts in_X2 hown hK hP 0 rfl rfl 4 (by decide) q_3 (fun _ h9 => h9) rfl dX2_divide_39 ?_
    have hPc : va_P D vwCl (wX1_size cI cB a_d2 a_dg2 v_below2 v_dF2) H := hP.sub [7, 8] rfl
    have hDc : va_D A (wX1_size cI cB a_d2 a_dg2 v_below2 v_dF2) := hD.sub [7, 8] (by decide) rfl
    have hFc := va_free (wc := (wX1_size cI cB a_d2 a_dg2 v_below2 v_dF2)) hD hS hA [7, 8] rfl
    refine va_calll (va_runV (As := []) (rest := [.ref a_d1]) ⟨hx, hb, hml, hown, hts⟩ (kX1_size l D cI cB a_d2 a_dg2 H.size v_below2 v_dF2 ) (cwV 0 hts (gd_V wd_212 wd_213 wd_214 wd_138 wd_167) rfl rfl rfl hdX1_size ⟨Nat.le_of_ble_eq_true rfl, Nat.le_of_ble_eq_true rfl⟩) (preV_std (ci := 1) (q0 := 0) hPc hK hDc hNW rfl rfl) rfl rfl hl.1 rfl (lv_room (Nat.le_of_ble_eq_true rfl)) dX2_divide_42 ⟨Nat.zero_le _, Nat.zero_le _⟩) hS (fun q _ h => hFc q h) hFc (fun r_42 u_42 t9 H1 locs ht9 hvm9 hw9 hB9 hz9 hk9 hS => ?_)
    have er_42 : r_42 = fX1_size v_dF2 := hw9
    obtain ⟨hP, hD⟩ := back_std (w1 := (wX1_size cI cB a_d2 a_dg2 v_below2 v_dF2)) (w2 := (wX2_divide cI cB a_de a_ins a_mc a_me a_ps a_by a_ks a_rg a_d1 a_dg1 a_d2 a_dg2 a_src v_fb v_sb v_op v_i v_r v_s v_a v_b v_fault v_bF v_below1 v_dF1 v_below2 v_dF2)) (wr := [(a_de, .inr (2, [.ref a_mc, .ref a_ins, .ref a_me, .ref a_d1, .ref a_d2, .ref a_src, .int v_fb, .int v_sb])), (a_ins, .inr (4, [.ref a_mc, .ref a_me, .int v_op, .int v_i, .int v_r, .int v_s, .int v_a, .int v_b])), (a_mc, .inr (5, [.ref a_me, .ref a_ps, .ref a_rg, .int v_fault])), (a_me, .inr (6, [.ref a_by, .ref a_ks])), (a_by, .inl (cB, 8192, .inl v_bF)), (a_d1, .inr (1, [.ref a_dg1, .int v_below1])), (a_dg1, .inl (cI, 32, .inl v_dF1))]) hP hD [7, 8] [0, 1, 2, 3, 4, 5, 6] [0, 1, 2, 3, 4, 5, 6, 7, 8] rfl rfl (by decide) (by decide) hk9 hFc hB9 ht9 (by decide) rfl
    clear hB9 hk9 hz9 hvm9 ht9 hFc hPc hDc
    generalize H1 = H at hP hS ⊢
    have hPc : va_P D vwCl (wX1_divide cI cB a_d1 a_dg1 v_below1 v_dF1) H := hP.sub [5, 6] rfl
    have hDc : va_D A (wX1_divide cI cB a_d1 a_dg1 v_below1 v_dF1) := hD.sub [5, 6] (by decide) rfl
    have hFc := va_free (wc := (wX1_divide cI cB a_d1 a_dg1 v_below1 v_dF1)) hD hS hA [5, 6] rfl
    refine va_calll (va_runV (As := [.long r_42]) (rest := []) ⟨hx, hb, hml, hown, hts⟩ (kX1_divide l D cI cB a_d1 a_dg1 H.size v_below1 v_dF1 r_42) (cwV 1 hts (gd_V wd_269 wd_270 wd_271 wd_138 wd_185) rfl rfl rfl hdX1_divide ⟨Nat.le_of_ble_eq_true rfl, Nat.le_of_ble_eq_true rfl⟩) (preV_std (ci := 1) (q0 := 0) hPc hK hDc hNW rfl rfl) rfl rfl hl.1 rfl (lv_room (Nat.le_of_ble_eq_true rfl)) dX2_divide_45 ⟨Nat.zero_le _, Nat.zero_le _⟩) hS (fun q _ h => hFc q h) hFc (fun r_45 u_45 t9 H1 locs ht9 hvm9 hw9 hB9 hz9 hk9 hS => ?_)
    obtain ⟨er_45, eu_45⟩ := hw9
    obtain ⟨hP, hD⟩ := back_std (w1 := (wX1_divide cI cB a_d1 a_dg1 v_below1 u_45)) (w2 := (wX2_divide cI cB a_de a_ins a_mc a_me a_ps a_by a_ks a_rg a_d1 a_dg1 a_d2 a_dg2 a_src v_fb v_sb v_op v_i v_r v_s v_a v_b v_fault v_bF v_below1 u_45 v_below2 v_dF2)) (wr := [(a_de, .inr (2, [.ref a_mc, .ref a_ins, .ref a_me, .ref a_d1, .ref a_d2, .ref a_src, .int v_fb, .int v_sb])), (a_ins, .inr (4, [.ref a_mc, .ref a_me, .int v_op, .int v_i, .int v_r, .int v_s, .int v_a, .int v_b])), (a_mc, .inr (5, [.ref a_me, .ref a_ps, .ref a_rg, .int v_fault])), (a_me, .inr (6, [.ref a_by, .ref a_ks])), (a_by, .inl (cB, 8192, .inl v_bF)), (a_d2, .inr (1, [.ref a_dg2, .int v_below2])), (a_dg2, .inl (cI, 32, .inl v_dF2))]) hP hD [5, 6] [0, 1, 2, 3, 4, 7, 8] [0, 1, 2, 3, 4, 7, 8, 5, 6] rfl rfl (by decide) (by decide) hk9 hFc hB9 ht9 (by decide) rfl
    clear hB9 hk9 hz9 hvm9 ht9 hFc hPc hDc
    generalize H1 = H at hP hS ⊢
    refine lv_lstore (lv' := [(4, .long r_45), (3, .int m_33), (0, .ref a_de), (1, .int x_9), (2, .int v_below1)]) hx hb dX2_divide_48 hl (by decide) rfl (fun ls hl => ?_)
    refine lv_iload_n hx hb dX2_divide_50 rfl (lv_at hl 1 rfl) ?_
    refine lv_if_eq (tgt := 69) hx hb dX2_divide_51 (by decide) (fun c_51 => ?_) (fun c_51 => ?_)
    · skip
      refine lv_aload_n hx hb dX2_divide_69 rfl (lv_at hl 2 rfl) ?_
      refine va_get (D := D) (ci := 2) (v := .ref a_mc) (C := RX2) (T := TX2) (N := 8) hx hb hts in_X2 hown hK hP 0 rfl rfl 0 (by decide) q_4 (fun _ h9 => h9) rfl dX2_divide_70 ?_
      refine lv_bipush (v := 11) hx hb dX2_divide_73 (by decide) ?_
      have hPc : va_P D vwCl (wX5_fail cI cB a_mc a_me a_ps a_rg v_fault) H := hP.sub [2] rfl
      have hDc : va_D A (wX5_fail cI cB a_mc a_me a_ps a_rg v_fault) := hD.sub [2] (by decide) rfl
      have hFc := va_free (wc := (wX5_fail cI cB a_mc a_me a_ps a_rg v_fault)) hD hS hA [2] rfl
      refine va_callv (va_runV (As := [.int 11]) (rest := []) ⟨hx, hb, hml, hown, hts⟩ (kX5_fail l D cI cB a_mc a_me a_ps a_rg H.size v_fault 11) (cwV 1 hts (gd_V wd_211 wd_54 wd_55 wd_24 wd_46) rfl rfl rfl hdX5_fail ⟨Nat.le_of_ble_eq_true rfl, Nat.le_of_ble_eq_true rfl⟩) (preV_std (ci := 5) (q0 := 0) hPc hK hDc hNW rfl rfl) rfl rfl hl.1 rfl (lv_room (Nat.le_of_ble_eq_true rfl)) dX2_divide_75 ⟨Nat.zero_le _, Nat.zero_le _⟩) hS (fun q _ h => hFc q h) hFc (fun u_75 t9 H1 locs ht9 hvm9 hw9 hB9 hz9 hk9 hS => ?_)
      have eu_75 : u_75 = fX5_fail 11 v_fault := hw9
      obtain ⟨hP, hD⟩ := back_std (w1 := (wX5_fail cI cB a_mc a_me a_ps a_rg u_75)) (w2 := (wX2_divide cI cB a_de a_ins a_mc a_me a_ps a_by a_ks a_rg a_d1 a_dg1 a_d2 a_dg2 a_src v_fb v_sb v_op v_i v_r v_s v_a v_b u_75 v_bF v_below1 u_45 v_below2 v_dF2)) (wr := [(a_de, .inr (2, [.ref a_mc, .ref a_ins, .ref a_me, .ref a_d1, .ref a_d2, .ref a_src, .int v_fb, .int v_sb])), (a_ins, .inr (4, [.ref a_mc, .ref a_me, .int v_op, .int v_i, .int v_r, .int v_s, .int v_a, .int v_b])), (a_me, .inr (6, [.ref a_by, .ref a_ks])), (a_by, .inl (cB, 8192, .inl v_bF)), (a_d1, .inr (1, [.ref a_dg1, .int v_below1])), (a_dg1, .inl (cI, 32, .inl u_45)), (a_d2, .inr (1, [.ref a_dg2, .int v_below2])), (a_dg2, .inl (cI, 32, .inl v_dF2))]) hP hD [2] [0, 1, 3, 4, 5, 6, 7, 8] [0, 1, 8, 2, 3, 4, 5, 6, 7] rfl rfl (by decide) (by decide) hk9 hFc hB9 ht9 (by decide) rfl
      clear hB9 hk9 hz9 hvm9 ht9 hFc hPc hDc
      generalize H1 = H at hP hS ⊢
      have hf9 : (u_75, v_bF, v_below1, u_45, v_below2, v_dF2) = fX2_divide v_fb v_sb v_a v_fault v_bF v_below1 v_dF1 v_below2 v_dF2 := by subst ex_9; simp only [fX2_divide, ← er_22, ← em_33, ← er_42, ← er_45, ← eu_45, ← eu_75]; (try simp only [if_pos c_51])
      exact W.vret hx hb hr (fun t9 ht9 hW9 => ⟨⟨(u_75, v_bF, v_below1, u_45, v_below2, v_dF2), rfl, hf9, ⟨by rw [ht9]; exact hP, va_K.moved hW9.alike hK, hD⟩⟩, hS.F ht9⟩) hS.2.2 dX2_divide_78
    · skip
      refine lv_aload_n hx hb dX2_divide_54 rfl (lv_at hl 2 rfl) ?_
      refine va_get (D := D) (ci := 2) (v := .ref a_d1) (C := RX2) (T := TX2) (N := 8) hx hb hts in_X2 hown hK hP 0 rfl rfl 3 (by decide) q_2 (fun _ h9 => h9) rfl dX2_divide_55 ?_
      refine lv_iconst (v := 2) hx hb dX2_divide_58 (by decide) ?_
      refine lv_iload_n hx hb dX2_divide_59 rfl (lv_at hl 3 rfl) ?_
      refine lv_imul hx hb dX2_divide_60 ?_
      refine lv_iconst (v := 1) hx hb dX2_divide_61 (by decide) ?_
      refine lv_isub hx hb dX2_divide_62 ?_
      have hPc : va_P D vwCl (wX1_isLongerThan cI cB a_d1 a_dg1 v_below1 u_45) H := hP.sub [5, 6] rfl
      have hDc : va_D A (wX1_isLongerThan cI cB a_d1 a_dg1 v_below1 u_45) := hD.sub [5, 6] (by decide) rfl
      have hFc := va_free (wc := (wX1_isLongerThan cI cB a_d1 a_dg1 v_below1 u_45)) hD hS hA [5, 6] rfl
      refine va_calli (va_runV (As := [.int (((2 * x_9) - 1))]) (rest := []) ⟨hx, hb, hml, hown, hts⟩ (kX1_isLongerThan l D cI cB a_d1 a_dg1 H.size v_below1 u_45 ((2 * x_9) - 1)) (cwV 1 hts (gd_V wd_244 wd_160 wd_161 wd_138 wd_153) rfl rfl rfl hdX1_isLongerThan ⟨Nat.le_of_ble_eq_true rfl, Nat.le_of_ble_eq_true rfl⟩) (preV_std (ci := 1) (q0 := 0) hPc hK hDc hNW rfl rfl) rfl rfl hl.1 rfl (lv_room (Nat.le_of_ble_eq_true rfl)) dX2_divide_63 ⟨Nat.zero_le _, Nat.zero_le _⟩) hS (fun q _ h => hFc q h) hFc (fun r_63 u_63 t9 H1 locs ht9 hvm9 hw9 hB9 hz9 hk9 hS => ?_)
      have er_63 : r_63 = fX1_isLongerThan ((2 * x_9) - 1) u_45 := hw9
      have zr_63 : r_63 = 0 ∨ r_63 = 1 := by rw [er_63]; exact zX1_isLongerThan _ _
      obtain ⟨hP, hD⟩ := back_std (w1 := (wX1_isLongerThan cI cB a_d1 a_dg1 v_below1 u_45)) (w2 := (wX2_divide cI cB a_de a_ins a_mc a_me a_ps a_by a_ks a_rg a_d1 a_dg1 a_d2 a_dg2 a_src v_fb v_sb v_op v_i v_r v_s v_a v_b v_fault v_bF v_below1 u_45 v_below2 v_dF2)) (wr := [(a_de, .inr (2, [.ref a_mc, .ref a_ins, .ref a_me, .ref a_d1, .ref a_d2, .ref a_src, .int v_fb, .int v_sb])), (a_ins, .inr (4, [.ref a_mc, .ref a_me, .int v_op, .int v_i, .int v_r, .int v_s, .int v_a, .int v_b])), (a_mc, .inr (5, [.ref a_me, .ref a_ps, .ref a_rg, .int v_fault])), (a_me, .inr (6, [.ref a_by, .ref a_ks])), (a_by, .inl (cB, 8192, .inl v_bF)), (a_d2, .inr (1, [.ref a_dg2, .int v_below2])), (a_dg2, .inl (cI, 32, .inl v_dF2))]) hP hD [5, 6] [0, 1, 2, 3, 4, 7, 8] [0, 1, 2, 3, 4, 7, 8, 5, 6] rfl rfl (by decide) (by decide) hk9 hFc hB9 ht9 (by decide) rfl
      clear hB9 hk9 hz9 hvm9 ht9 hFc hPc hDc
      generalize H1 = H at hP hS ⊢
      refine lv_if_eq (tgt := 79) hx hb dX2_divide_66 (by decide) (fun c_66 => ?_) (fun c_66 => ?_)
      · skip
        refine lv_aload_n hx hb dX2_divide_79 rfl (lv_at hl 2 rfl) ?_
        refine va_get (D := D) (ci := 2) (v := .ref a_d1) (C := RX2) (T := TX2) (N := 8) hx hb hts in_X2 hown hK hP 0 rfl rfl 3 (by decide) q_2 (fun _ h9 => h9) rfl dX2_divide_80 ?_
        refine lv_aload_n hx hb dX2_divide_83 rfl (lv_at hl 2 rfl) ?_
        refine va_get (D := D) (ci := 2) (v := .ref a_d1) (C := RX2) (T := TX2) (N := 8) hx hb hts in_X2 hown hK hP 0 rfl rfl 3 (by decide) q_2 (fun _ h9 => h9) rfl dX2_divide_84 ?_
        refine va_getN (D := D) (ci := 1) (v := .int v_below1) (C := RX1) (T := TX1) (N := 2) hx hb hts in_X1 hown hK hP 5 rfl rfl 1 (by decide) n_0 (fun _ h9 => h9) rfl dX2_divide_87 ?_
        refine lv_aload_n hx hb dX2_divide_90 rfl (lv_at hl 2 rfl) ?_
        refine va_get (D := D) (ci := 2) (v := .ref a_d2) (C := RX2) (T := TX2) (N := 8) hx hb hts in_X2 hown hK hP 0 rfl rfl 4 (by decide) q_3 (fun _ h9 => h9) rfl dX2_divide_91 ?_
        refine va_getN (D := D) (ci := 1) (v := .int v_below2) (C := RX1) (T := TX1) (N := 2) hx hb hts in_X1 hown hK hP 7 rfl rfl 1 (by decide) n_0 (fun _ h9 => h9) rfl dX2_divide_94 ?_
        have J_105 : ∀ (m_105 : Int32), m_105 = (if v_below1 = v_below2 then (0) else (1)) → ∀ (H : Heap) (locs : List Loc), va_P D vwCl (wX2_divide cI cB a_de a_ins a_mc a_me a_ps a_by a_ks a_rg a_d1 a_dg1 a_d2 a_dg2 a_src v_fb v_sb v_op v_i v_r v_s v_a v_b v_fault v_bF v_below1 u_45 v_below2 v_dF2) H → va_D A (wX2_divide cI cB a_de a_ins a_mc a_me a_ps a_by a_ks a_rg a_d1 a_dg1 a_d2 a_dg2 a_src v_fb v_sb v_op v_i v_r v_s v_a v_b v_fault v_bF v_below1 u_45 v_below2 v_dF2) → va_S A s.heap H locs → ∀ (ls : Array Slot), lv_has ls 6 [(0, .ref a_de), (1, .int x_9), (2, .int v_below1), (3, .int m_33), (4, .long r_45)] → W p l e rmX2_divide s m ([.ref a_de] : List Value).toArray below meth c H locs 0 0 (MQ below (qX2_divide D cI cB a_de a_ins a_mc a_me a_ps a_by a_ks a_rg a_d1 a_dg1 a_d2 a_dg2 a_src v_fb v_sb v_op v_i v_r v_s v_a v_b v_fault v_bF v_below1 v_dF1 v_below2 v_dF2 A) ([.ref a_de] : List Value).toArray s 0 0 A) (F0 m 105 ls [.int m_105, .ref a_d1]) := by
          intro m_105 em_105 H locs hP hD hS ls hl
          try dsimp only at em_105
          have zm_105_0 : m_105 = 0 ∨ m_105 = 1 := by rw [em_105]; (try dsimp only); (repeat' split) <;> first | exact Or.inl rfl | exact Or.inr rfl
          refine va_putN (D := D) (ci := 1) (v := .int m_105) (ty := .boolean) (C := RX1) (T := TX1) (N := 2) hx hb hts in_X1 tyX1 tyX1_ok nmX1 hown hK hP hD hS 5 rfl rfl 1 (by decide) n_0 (fun _ h9 => h9) rfl (by decide +kernel) (zb_narrow (by with_reducible assumption)) (zb_fits (by with_reducible assumption)) (Nat.le_of_ble_eq_true rfl) dX2_divide_105 (fun H locs hP hD hS => ?_)
          have hP : va_P D vwCl (wX2_divide cI cB a_de a_ins a_mc a_me a_ps a_by a_ks a_rg a_d1 a_dg1 a_d2 a_dg2 a_src v_fb v_sb v_op v_i v_r v_s v_a v_b v_fault v_bF m_105 u_45 v_below2 v_dF2) H := hP
          have hD : va_D A (wX2_divide cI cB a_de a_ins a_mc a_me a_ps a_by a_ks a_rg a_d1 a_dg1 a_d2 a_dg2 a_src v_fb v_sb v_op v_i v_r v_s v_a v_b v_fault v_bF m_105 u_45 v_below2 v_dF2) := hD
          refine lv_aload_n hx hb dX2_divide_108 rfl (lv_at hl 0 rfl) ?_
          refine va_get (D := D) (ci := 2) (v := .ref a_d1) (C := RX2) (T := TX2) (N := 8) hx hb hts in_X2 hown hK hP 0 rfl rfl 3 (by decide) q_2 (fun _ h9 => h9) rfl dX2_divide_109 ?_
          refine lv_aload_n hx hb dX2_divide_112 rfl (lv_at hl 0 rfl) ?_
          refine va_get (D := D) (ci := 2) (v := .ref a_me) (C := RX2) (T := TX2) (N := 8) hx hb hts in_X2 hown hK hP 0 rfl rfl 2 (by decide) q_5 (fun _ h9 => h9) rfl dX2_divide_113 ?_
          refine lv_aload_n hx hb dX2_divide_116 rfl (lv_at hl 0 rfl) ?_
          refine va_get (D := D) (ci := 2) (v := .ref a_ins) (C := RX2) (T := TX2) (N := 8) hx hb hts in_X2 hown hK hP 0 rfl rfl 1 (by decide) q_6 (fun _ h9 => h9) rfl dX2_divide_117 ?_
          refine va_getN (D := D) (ci := 4) (v := .int v_a) (C := RX4) (T := TX4) (N := 8) hx hb hts in_X4 hown hK hP 1 rfl rfl 6 (by decide) n_1 (fun _ h9 => h9) rfl dX2_divide_120 ?_
          refine lv_iload_n hx hb dX2_divide_123 rfl (lv_at hl 1 rfl) ?_
          have hPc : va_P D vwCl (wX1_give cI cB a_me a_by a_ks a_d1 a_dg1 v_bF m_105 u_45) H := hP.sub [3, 4, 5, 6] rfl
          have hDc : va_D A (wX1_give cI cB a_me a_by a_ks a_d1 a_dg1 v_bF m_105 u_45) := hD.sub [3, 4, 5, 6] (by decide) rfl
          have hFc := va_free (wc := (wX1_give cI cB a_me a_by a_ks a_d1 a_dg1 v_bF m_105 u_45)) hD hS hA [3, 4, 5, 6] rfl
          refine va_callv (va_runV (As := [.ref a_me, .int v_a, .int x_9]) (rest := []) ⟨hx, hb, hml, hown, hts⟩ (kX1_give l D cI cB a_me a_by a_ks a_d1 a_dg1 H.size v_bF m_105 u_45 v_a x_9) (cwV 3 hts (gd_V wd_204 wd_205 wd_206 wd_138 wd_146) rfl rfl rfl hdX1_give ⟨Nat.le_of_ble_eq_true rfl, Nat.le_of_ble_eq_true rfl⟩) (preV_std (ci := 1) (q0 := 2) hPc hK hDc hNW rfl rfl) rfl rfl hl.1 rfl (lv_room (Nat.le_of_ble_eq_true rfl)) dX2_divide_124 ⟨Nat.zero_le _, Nat.zero_le _⟩) hS (fun q _ h => hFc q h) hFc (fun u_124 t9 H1 locs ht9 hvm9 hw9 hB9 hz9 hk9 hS => ?_)
          have eu_124 : u_124 = fX1_give v_a x_9 v_bF m_105 u_45 := hw9
          obtain ⟨hP, hD⟩ := back_std (w1 := (wX1_give cI cB a_me a_by a_ks a_d1 a_dg1 u_124 m_105 u_45)) (w2 := (wX2_divide cI cB a_de a_ins a_mc a_me a_ps a_by a_ks a_rg a_d1 a_dg1 a_d2 a_dg2 a_src v_fb v_sb v_op v_i v_r v_s v_a v_b v_fault u_124 m_105 u_45 v_below2 v_dF2)) (wr := [(a_de, .inr (2, [.ref a_mc, .ref a_ins, .ref a_me, .ref a_d1, .ref a_d2, .ref a_src, .int v_fb, .int v_sb])), (a_ins, .inr (4, [.ref a_mc, .ref a_me, .int v_op, .int v_i, .int v_r, .int v_s, .int v_a, .int v_b])), (a_mc, .inr (5, [.ref a_me, .ref a_ps, .ref a_rg, .int v_fault])), (a_d2, .inr (1, [.ref a_dg2, .int v_below2])), (a_dg2, .inl (cI, 32, .inl v_dF2))]) hP hD [3, 4, 5, 6] [0, 1, 2, 7, 8] [0, 1, 2, 5, 6, 7, 8, 3, 4] rfl rfl (by decide) (by decide) hk9 hFc hB9 ht9 (by decide) rfl
          clear hB9 hk9 hz9 hvm9 ht9 hFc hPc hDc
          generalize H1 = H at hP hS ⊢
          refine lv_aload_n hx hb dX2_divide_127 rfl (lv_at hl 0 rfl) ?_
          refine va_get (D := D) (ci := 2) (v := .ref a_d2) (C := RX2) (T := TX2) (N := 8) hx hb hts in_X2 hown hK hP 0 rfl rfl 4 (by decide) q_3 (fun _ h9 => h9) rfl dX2_divide_128 ?_
          refine lv_lload hx hb dX2_divide_131 (lv_at hl 4 rfl) ?_
          have hPc : va_P D vwCl (wX1_setNumber cI cB a_d2 a_dg2 v_below2 v_dF2) H := hP.sub [7, 8] rfl
          have hDc : va_D A (wX1_setNumber cI cB a_d2 a_dg2 v_below2 v_dF2) := hD.sub [7, 8] (by decide) rfl
          have hFc := va_free (wc := (wX1_setNumber cI cB a_d2 a_dg2 v_below2 v_dF2)) hD hS hA [7, 8] rfl
          refine va_callv (va_runV (As := [.long r_45]) (rest := []) ⟨hx, hb, hml, hown, hts⟩ (kX1_setNumber l D cI cB a_d2 a_dg2 H.size v_below2 v_dF2 r_45) (cwV 1 hts (gd_V wd_201 wd_202 wd_203 wd_138 wd_162) rfl rfl rfl hdX1_setNumber ⟨Nat.le_of_ble_eq_true rfl, Nat.le_of_ble_eq_true rfl⟩) (preV_std (ci := 1) (q0 := 0) hPc hK hDc hNW rfl rfl) rfl rfl hl.1 rfl (lv_room (Nat.le_of_ble_eq_true rfl)) dX2_divide_133 ⟨Nat.zero_le _, Nat.zero_le _⟩) hS (fun q _ h => hFc q h) hFc (fun u_133 t9 H1 locs ht9 hvm9 hw9 hB9 hz9 hk9 hS => ?_)
          have eu_133 : u_133 = fX1_setNumber r_45 v_below2 v_dF2 := hw9
          obtain ⟨hP, hD⟩ := back_std (w1 := (wX1_setNumber cI cB a_d2 a_dg2 u_133.1 u_133.2)) (w2 := (wX2_divide cI cB a_de a_ins a_mc a_me a_ps a_by a_ks a_rg a_d1 a_dg1 a_d2 a_dg2 a_src v_fb v_sb v_op v_i v_r v_s v_a v_b v_fault u_124 m_105 u_45 u_133.1 u_133.2)) (wr := [(a_de, .inr (2, [.ref a_mc, .ref a_ins, .ref a_me, .ref a_d1, .ref a_d2, .ref a_src, .int v_fb, .int v_sb])), (a_ins, .inr (4, [.ref a_mc, .ref a_me, .int v_op, .int v_i, .int v_r, .int v_s, .int v_a, .int v_b])), (a_mc, .inr (5, [.ref a_me, .ref a_ps, .ref a_rg, .int v_fault])), (a_me, .inr (6, [.ref a_by, .ref a_ks])), (a_by, .inl (cB, 8192, .inl u_124)), (a_d1, .inr (1, [.ref a_dg1, .int m_105])), (a_dg1, .inl (cI, 32, .inl u_45))]) hP hD [7, 8] [0, 1, 2, 3, 4, 5, 6] [0, 1, 2, 3, 4, 5, 6, 7, 8] rfl rfl (by decide) (by decide) hk9 hFc hB9 ht9 (by decide) rfl
          clear hB9 hk9 hz9 hvm9 ht9 hFc hPc hDc
          generalize H1 = H at hP hS ⊢
          refine lv_aload_n hx hb dX2_divide_136 rfl (lv_at hl 0 rfl) ?_
          refine va_get (D := D) (ci := 2) (v := .ref a_d2) (C := RX2) (T := TX2) (N := 8) hx hb hts in_X2 hown hK hP 0 rfl rfl 4 (by decide) q_3 (fun _ h9 => h9) rfl dX2_divide_137 ?_
          refine lv_iload_n hx hb dX2_divide_140 rfl (lv_at hl 2 rfl) ?_
          refine va_putN (D := D) (ci := 1) (v := .int v_below1) (ty := .boolean) (C := RX1) (T := TX1) (N := 2) hx hb hts in_X1 tyX1 tyX1_ok nmX1 hown hK hP hD hS 7 rfl rfl 1 (by decide) n_0 (fun _ h9 => h9) rfl (by decide +kernel) (zb_narrow (by with_reducible assumption)) (zb_fits (by with_reducible assumption)) (Nat.le_of_ble_eq_true rfl) dX2_divide_141 (fun H locs hP hD hS => ?_)
          have hP : va_P D vwCl (wX2_divide cI cB a_de a_ins a_mc a_me a_ps a_by a_ks a_rg a_d1 a_dg1 a_d2 a_dg2 a_src v_fb v_sb v_op v_i v_r v_s v_a v_b v_fault u_124 m_105 u_45 v_below1 u_133.2) H := hP
          have hD : va_D A (wX2_divide cI cB a_de a_ins a_mc a_me a_ps a_by a_ks a_rg a_d1 a_dg1 a_d2 a_dg2 a_src v_fb v_sb v_op v_i v_r v_s v_a v_b v_fault u_124 m_105 u_45 v_below1 u_133.2) := hD
          refine lv_aload_n hx hb dX2_divide_144 rfl (lv_at hl 0 rfl) ?_
          refine va_get (D := D) (ci := 2) (v := .ref a_d2) (C := RX2) (T := TX2) (N := 8) hx hb hts in_X2 hown hK hP 0 rfl rfl 4 (by decide) q_3 (fun _ h9 => h9) rfl dX2_divide_145 ?_
          refine lv_aload_n hx hb dX2_divide_148 rfl (lv_at hl 0 rfl) ?_
          refine va_get (D := D) (ci := 2) (v := .ref a_me) (C := RX2) (T := TX2) (N := 8) hx hb hts in_X2 hown hK hP 0 rfl rfl 2 (by decide) q_5 (fun _ h9 => h9) rfl dX2_divide_149 ?_
          refine lv_aload_n hx hb dX2_divide_152 rfl (lv_at hl 0 rfl) ?_
          refine va_get (D := D) (ci := 2) (v := .ref a_ins) (C := RX2) (T := TX2) (N := 8) hx hb hts in_X2 hown hK hP 0 rfl rfl 1 (by decide) q_6 (fun _ h9 => h9) rfl dX2_divide_153 ?_
          refine va_getN (D := D) (ci := 4) (v := .int v_a) (C := RX4) (T := TX4) (N := 8) hx hb hts in_X4 hown hK hP 1 rfl rfl 6 (by decide) n_1 (fun _ h9 => h9) rfl dX2_divide_156 ?_
          refine lv_iload_n hx hb dX2_divide_159 rfl (lv_at hl 1 rfl) ?_
          refine lv_iadd hx hb dX2_divide_160 ?_
          refine lv_aload_n hx hb dX2_divide_161 rfl (lv_at hl 0 rfl) ?_
          refine va_get (D := D) (ci := 2) (v := .int v_sb) (C := RX2) (T := TX2) (N := 8) hx hb hts in_X2 hown hK hP 0 rfl rfl 7 (by decide) q_1 (fun _ h9 => h9) rfl dX2_divide_162 ?_
          have hPc : va_P D vwCl (wX1_give cI cB a_me a_by a_ks a_d2 a_dg2 u_124 v_below1 u_133.2) H := hP.sub [3, 4, 7, 8] rfl
          have hDc : va_D A (wX1_give cI cB a_me a_by a_ks a_d2 a_dg2 u_124 v_below1 u_133.2) := hD.sub [3, 4, 7, 8] (by decide) rfl
          have hFc := va_free (wc := (wX1_give cI cB a_me a_by a_ks a_d2 a_dg2 u_124 v_below1 u_133.2)) hD hS hA [3, 4, 7, 8] rfl
          refine va_callv (va_runV (As := [.ref a_me, .int (v_a + x_9), .int v_sb]) (rest := []) ⟨hx, hb, hml, hown, hts⟩ (kX1_give l D cI cB a_me a_by a_ks a_d2 a_dg2 H.size u_124 v_below1 u_133.2 (v_a + x_9) v_sb) (cwV 3 hts (gd_V wd_204 wd_205 wd_206 wd_138 wd_146) rfl rfl rfl hdX1_give ⟨Nat.le_of_ble_eq_true rfl, Nat.le_of_ble_eq_true rfl⟩) (preV_std (ci := 1) (q0 := 2) hPc hK hDc hNW rfl rfl) rfl rfl hl.1 rfl (lv_room (Nat.le_of_ble_eq_true rfl)) dX2_divide_165 ⟨Nat.zero_le _, Nat.zero_le _⟩) hS (fun q _ h => hFc q h) hFc (fun u_165 t9 H1 locs ht9 hvm9 hw9 hB9 hz9 hk9 hS => ?_)
          have eu_165 : u_165 = fX1_give (v_a + x_9) v_sb u_124 v_below1 u_133.2 := hw9
          obtain ⟨hP, hD⟩ := back_std (w1 := (wX1_give cI cB a_me a_by a_ks a_d2 a_dg2 u_165 v_below1 u_133.2)) (w2 := (wX2_divide cI cB a_de a_ins a_mc a_me a_ps a_by a_ks a_rg a_d1 a_dg1 a_d2 a_dg2 a_src v_fb v_sb v_op v_i v_r v_s v_a v_b v_fault u_165 m_105 u_45 v_below1 u_133.2)) (wr := [(a_de, .inr (2, [.ref a_mc, .ref a_ins, .ref a_me, .ref a_d1, .ref a_d2, .ref a_src, .int v_fb, .int v_sb])), (a_ins, .inr (4, [.ref a_mc, .ref a_me, .int v_op, .int v_i, .int v_r, .int v_s, .int v_a, .int v_b])), (a_mc, .inr (5, [.ref a_me, .ref a_ps, .ref a_rg, .int v_fault])), (a_d1, .inr (1, [.ref a_dg1, .int m_105])), (a_dg1, .inl (cI, 32, .inl u_45))]) hP hD [3, 4, 7, 8] [0, 1, 2, 5, 6] [0, 1, 2, 5, 6, 3, 4, 7, 8] rfl rfl (by decide) (by decide) hk9 hFc hB9 ht9 (by decide) rfl
          clear hB9 hk9 hz9 hvm9 ht9 hFc hPc hDc
          generalize H1 = H at hP hS ⊢
          have hf9 : (v_fault, u_165, m_105, u_45, v_below1, u_133.2) = fX2_divide v_fb v_sb v_a v_fault v_bF v_below1 v_dF1 v_below2 v_dF2 := by subst ex_9; simp only [fX2_divide, ← er_22, ← em_33, ← er_42, ← er_45, ← eu_45, ← er_63, ← em_105, ← eu_124, ← eu_133, ← eu_165]; (try simp only [if_neg c_51, if_pos c_66])
          exact W.vret hx hb hr (fun t9 ht9 hW9 => ⟨⟨(v_fault, u_165, m_105, u_45, v_below1, u_133.2), rfl, hf9, ⟨by rw [ht9]; exact hP, va_K.moved hW9.alike hK, hD⟩⟩, hS.F ht9⟩) hS.2.2 dX2_divide_168
        refine lv_icmp_eq (tgt := 104) hx hb dX2_divide_97 (by decide) (fun c_97 => ?_) (fun c_97 => ?_)
        · skip
          refine lv_iconst (v := 0) hx hb dX2_divide_104 (by decide) ?_
          exact J_105 0 (by (try simp only [if_pos c_97])) _ _ hP hD hS ls (lv_sub hl [2, 3, 4, 1, 0] rfl)
        · skip
          refine lv_iconst (v := 1) hx hb dX2_divide_100 (by decide) ?_
          refine lv_goto (tgt := 105) hx hb dX2_divide_101 (by decide) ?_
          exact J_105 1 (by (try simp only [if_neg c_97])) _ _ hP hD hS ls (lv_sub hl [2, 3, 4, 1, 0] rfl)
      · skip
        refine lv_aload_n hx hb dX2_divide_69 rfl (lv_at hl 2 rfl) ?_
        refine va_get (D := D) (ci := 2) (v := .ref a_mc) (C := RX2) (T := TX2) (N := 8) hx hb hts in_X2 hown hK hP 0 rfl rfl 0 (by decide) q_4 (fun _ h9 => h9) rfl dX2_divide_70 ?_
        refine lv_bipush (v := 11) hx hb dX2_divide_73 (by decide) ?_
        have hPc : va_P D vwCl (wX5_fail cI cB a_mc a_me a_ps a_rg v_fault) H := hP.sub [2] rfl
        have hDc : va_D A (wX5_fail cI cB a_mc a_me a_ps a_rg v_fault) := hD.sub [2] (by decide) rfl
        have hFc := va_free (wc := (wX5_fail cI cB a_mc a_me a_ps a_rg v_fault)) hD hS hA [2] rfl
        refine va_callv (va_runV (As := [.int 11]) (rest := []) ⟨hx, hb, hml, hown, hts⟩ (kX5_fail l D cI cB a_mc a_me a_ps a_rg H.size v_fault 11) (cwV 1 hts (gd_V wd_211 wd_54 wd_55 wd_24 wd_46) rfl rfl rfl hdX5_fail ⟨Nat.le_of_ble_eq_true rfl, Nat.le_of_ble_eq_true rfl⟩) (preV_std (ci := 5) (q0 := 0) hPc hK hDc hNW rfl rfl) rfl rfl hl.1 rfl (lv_room (Nat.le_of_ble_eq_true rfl)) dX2_divide_75 ⟨Nat.zero_le _, Nat.zero_le _⟩) hS (fun q _ h => hFc q h) hFc (fun u_75 t9 H1 locs ht9 hvm9 hw9 hB9 hz9 hk9 hS => ?_)
        have eu_75 : u_75 = fX5_fail 11 v_fault := hw9
        obtain ⟨hP, hD⟩ := back_std (w1 := (wX5_fail cI cB a_mc a_me a_ps a_rg u_75)) (w2 := (wX2_divide cI cB a_de a_ins a_mc a_me a_ps a_by a_ks a_rg a_d1 a_dg1 a_d2 a_dg2 a_src v_fb v_sb v_op v_i v_r v_s v_a v_b u_75 v_bF v_below1 u_45 v_below2 v_dF2)) (wr := [(a_de, .inr (2, [.ref a_mc, .ref a_ins, .ref a_me, .ref a_d1, .ref a_d2, .ref a_src, .int v_fb, .int v_sb])), (a_ins, .inr (4, [.ref a_mc, .ref a_me, .int v_op, .int v_i, .int v_r, .int v_s, .int v_a, .int v_b])), (a_me, .inr (6, [.ref a_by, .ref a_ks])), (a_by, .inl (cB, 8192, .inl v_bF)), (a_d1, .inr (1, [.ref a_dg1, .int v_below1])), (a_dg1, .inl (cI, 32, .inl u_45)), (a_d2, .inr (1, [.ref a_dg2, .int v_below2])), (a_dg2, .inl (cI, 32, .inl v_dF2))]) hP hD [2] [0, 1, 3, 4, 5, 6, 7, 8] [0, 1, 8, 2, 3, 4, 5, 6, 7] rfl rfl (by decide) (by decide) hk9 hFc hB9 ht9 (by decide) rfl
        clear hB9 hk9 hz9 hvm9 ht9 hFc hPc hDc
        generalize H1 = H at hP hS ⊢
        have hf9 : (u_75, v_bF, v_below1, u_45, v_below2, v_dF2) = fX2_divide v_fb v_sb v_a v_fault v_bF v_below1 v_dF1 v_below2 v_dF2 := by subst ex_9; simp only [fX2_divide, ← er_22, ← em_33, ← er_42, ← er_45, ← eu_45, ← er_63, ← eu_75]; (try simp only [if_neg c_51, if_neg c_66])
        exact W.vret hx hb hr (fun t9 ht9 hW9 => ⟨⟨(u_75, v_bF, v_below1, u_45, v_below2, v_dF2), rfl, hf9, ⟨by rw [ht9]; exact hP, va_K.moved hW9.alike hK, hD⟩⟩, hS.F ht9⟩) hS.2.2 dX2_divide_78
  refine lv_if_eq (tgt := 32) hx hb dX2_divide_25 (by decide) (fun c_25 => ?_) (fun c_25 => ?_)
  · skip
    refine lv_iconst (v := 0) hx hb dX2_divide_32 (by decide) ?_
    exact J_33 0 (by (try simp only [if_pos c_25])) _ _ hP hD hS ls (lv_sub hl [2, 1, 0] rfl)
  · skip
    refine lv_iconst (v := 1) hx hb dX2_divide_28 (by decide) ?_
    refine lv_goto (tgt := 33) hx hb dX2_divide_29 (by decide) ?_
    exact J_33 1 (by (try simp only [if_neg c_25])) _ _ hP hD hS ls (lv_sub hl [2, 1, 0] rfl)
theorem hdX2_divide : yX2_divide.cls = RX2 ∧ yX2_divide.cls ≠ "java/lang/invoke/MethodHandle" ∧ yX2_divide.cls ≠ "java/lang/invoke/VarHandle" ∧ (parseMethodDescriptor yX2_divide.desc).map (fun d => d.parameters.length) = some 0 := by decide +kernel
noncomputable def fX2_multiplyOrDivide (v_fb : Int32) (v_sb : Int32) (v_op : Int32) (v_r : Int32) (v_s : Int32) (v_a : Int32) (v_b : Int32) (v_fault : Int32) (v_word : Int64) (v_bF : (Nat → Int32)) (v_kF : (Nat → Int32)) (v_below1 : Int32) (v_dF1 : (Nat → Int32)) (v_below2 : Int32) (v_dF2 : (Nat → Int32)) : (Int32 × Int32 × Int32 × (Nat → Int32) × Int32 × (Nat → Int32) × Int32 × (Nat → Int32)) :=
  let u_2 := fX2_demandBoth 1 v_fb v_sb v_r v_s v_a v_b v_fault v_word v_kF
  let m_34 : Int32 := (if 8 < u_2.2.1 then (let u_31 := fX5_fail 6 u_2.2.2; u_31) else (if u_2.2.1 < u_2.1 then (u_2.2.2) else (let u_31 := fX5_fail 6 u_2.2.2; u_31)))
  let u_36 := fX2_takeBoth 0 u_2.1 u_2.2.1 v_a v_b m_34 v_bF v_below1 v_dF1 v_below2 v_dF2
  let r_43 := fX5_fine u_36.1
  if r_43 = 0 then ((u_2.1, u_2.2.1, u_36.1, v_bF, u_36.2.1, u_36.2.2.1, u_36.2.2.2.1, u_36.2.2.2.2)) else (if v_op = 252 then (let u_64 := fX2_multiply u_2.1 u_2.2.1 v_a u_36.1 v_bF u_36.2.1 u_36.2.2.1 u_36.2.2.2.1 u_36.2.2.2.2; (u_2.1, u_2.2.1, u_64.1, u_64.2.1, u_64.2.2.1, u_64.2.2.2, u_36.2.2.2.1, u_36.2.2.2.2)) else (let u_71 := fX2_divide u_2.1 u_2.2.1 v_a u_36.1 v_bF u_36.2.1 u_36.2.2.1 u_36.2.2.2.1 u_36.2.2.2.2; (u_2.1, u_2.2.1, u_71.1, u_71.2.1, u_71.2.2.1, u_71.2.2.2.1, u_71.2.2.2.2.1, u_71.2.2.2.2.2)))
abbrev wX2_multiplyOrDivide (cI cB : ClassId) (a_de a_ins a_mc a_me a_ps a_by a_ks a_rg a_d1 a_dg1 a_d2 a_dg2 a_src : Nat) (v_fb : Int32) (v_sb : Int32) (v_op : Int32) (v_i : Int32) (v_r : Int32) (v_s : Int32) (v_a : Int32) (v_b : Int32) (v_fault : Int32) (v_word : Int64) (v_bF : (Nat → Int32)) (v_kF : (Nat → Int32)) (v_below1 : Int32) (v_dF1 : (Nat → Int32)) (v_below2 : Int32) (v_dF2 : (Nat → Int32)) : va_W := [(a_de, .inr (2, [.ref a_mc, .ref a_ins, .ref a_me, .ref a_d1, .ref a_d2, .ref a_src, .int v_fb, .int v_sb])), (a_ins, .inr (4, [.ref a_mc, .ref a_me, .int v_op, .int v_i, .int v_r, .int v_s, .int v_a, .int v_b])), (a_mc, .inr (5, [.ref a_me, .ref a_ps, .ref a_rg, .int v_fault])), (a_me, .inr (6, [.ref a_by, .ref a_ks])), (a_ps, .inr (7, [.long v_word])), (a_by, .inl (cB, 8192, .inl v_bF)), (a_ks, .inl (cI, 4, .inl v_kF)), (a_d1, .inr (1, [.ref a_dg1, .int v_below1])), (a_dg1, .inl (cI, 32, .inl v_dF1)), (a_d2, .inr (1, [.ref a_dg2, .int v_below2])), (a_dg2, .inl (cI, 32, .inl v_dF2))]
abbrev rmX2_multiplyOrDivide : Room := { frames := 4, cells := 0, slots := 0, locals := 89 }
abbrev qX2_multiplyOrDivide (D : va_G) (cI cB : ClassId) (a_de a_ins a_mc a_me a_ps a_by a_ks a_rg a_d1 a_dg1 a_d2 a_dg2 a_src : Nat) (v_fb : Int32) (v_sb : Int32) (v_op : Int32) (v_i : Int32) (v_r : Int32) (v_s : Int32) (v_a : Int32) (v_b : Int32) (v_fault : Int32) (v_word : Int64) (v_bF : (Nat → Int32)) (v_kF : (Nat → Int32)) (v_below1 : Int32) (v_dF1 : (Nat → Int32)) (v_below2 : Int32) (v_dF2 : (Nat → Int32)) : (Nat → Prop) → Array Value → State → Outcome → State → Prop := fun A9 => va_Qv (fun (u9 : (Int32 × Int32 × Int32 × (Nat → Int32) × Int32 × (Nat → Int32) × Int32 × (Nat → Int32))) => u9 = fX2_multiplyOrDivide v_fb v_sb v_op v_r v_s v_a v_b v_fault v_word v_bF v_kF v_below1 v_dF1 v_below2 v_dF2) (fun u9 t9 => atW D (TYS cI cB) A9 (wX2_multiplyOrDivide cI cB a_de a_ins a_mc a_me a_ps a_by a_ks a_rg a_d1 a_dg1 a_d2 a_dg2 a_src u9.1 u9.2.1 v_op v_i v_r v_s v_a v_b u9.2.2.1 v_word u9.2.2.2.1 v_kF u9.2.2.2.2.1 u9.2.2.2.2.2.1 u9.2.2.2.2.2.2.1 u9.2.2.2.2.2.2.2) t9) A9
set_option maxHeartbeats 4000000 in
set_option maxRecDepth 100000 in
theorem kX2_multiplyOrDivide (l : Launch) (D : va_G) (cI cB : ClassId) (a_de a_ins a_mc a_me a_ps a_by a_ks a_rg a_d1 a_dg1 a_d2 a_dg2 a_src : Nat) (sz : Nat) (v_fb : Int32) (v_sb : Int32) (v_op : Int32) (v_i : Int32) (v_r : Int32) (v_s : Int32) (v_a : Int32) (v_b : Int32) (v_fault : Int32) (v_word : Int64) (v_bF : (Nat → Int32)) (v_kF : (Nat → Int32)) (v_below1 : Int32) (v_dF1 : (Nat → Int32)) (v_below2 : Int32) (v_dF2 : (Nat → Int32)) (hz1 : v_below1 = 0 ∨ v_below1 = 1) : MetW l yX2_multiplyOrDivide (WK yX2_multiplyOrDivide cX2_multiplyOrDivide 1 none) rmX2_multiplyOrDivide D (TYS cI cB) (wX2_multiplyOrDivide cI cB a_de a_ins a_mc a_me a_ps a_by a_ks a_rg a_d1 a_dg1 a_d2 a_dg2 a_src v_fb v_sb v_op v_i v_r v_s v_a v_b v_fault v_word v_bF v_kF v_below1 v_dF1 v_below2 v_dF2) sz [.ref a_de] (qX2_multiplyOrDivide D cI cB a_de a_ins a_mc a_me a_ps a_by a_ks a_rg a_d1 a_dg1 a_d2 a_dg2 a_src v_fb v_sb v_op v_i v_r v_s v_a v_b v_fault v_word v_bF v_kF v_below1 v_dF1 v_below2 v_dF2) 0 0 := by
  refine met_std (by decide) rfl (Nat.le_of_ble_eq_true rfl) ?_
  intro p e s m below meth c A ls H hx hb hr hml hown hts hlocks hA hP hK hD hS hNW hl
  have hl : lv_has ls 1 [(0, .ref a_de)] := hl
  have q_0 := hts _ (List.mem_cons_of_mem _ wd_218)
  have q_1 := hts _ (List.mem_cons_of_mem _ wd_188)
  have q_2 := hts _ (List.mem_cons_of_mem _ wd_217)
  have q_3 := hts _ (List.mem_cons_of_mem _ wd_189)
  have n_0 := hNW.f (A := ([.ref a_de] : List Value).toArray) ("MainframeCore$Decimals", 120, "MainframeCore$Instruction", "operation", "I", "MainframeCore") (by decide +kernel)
  refine lv_aload_n hx hb dX2_multiplyOrDivide_0 rfl (lv_at hl 0 rfl) ?_
  refine lv_iconst (v := 1) hx hb dX2_multiplyOrDivide_1 (by decide) ?_
  have hPc : va_P D vwCl (wX2_demandBoth cI cB a_de a_ins a_mc a_me a_ps a_by a_ks a_rg a_d1 a_d2 a_src v_fb v_sb v_op v_i v_r v_s v_a v_b v_fault v_word v_kF) H := hP.sub [0, 1, 2, 3, 4, 6] rfl
  have hDc : va_D A (wX2_demandBoth cI cB a_de a_ins a_mc a_me a_ps a_by a_ks a_rg a_d1 a_d2 a_src v_fb v_sb v_op v_i v_r v_s v_a v_b v_fault v_word v_kF) := hD.sub [0, 1, 2, 3, 4, 6] (by decide) rfl
  have hFc := va_free (wc := (wX2_demandBoth cI cB a_de a_ins a_mc a_me a_ps a_by a_ks a_rg a_d1 a_d2 a_src v_fb v_sb v_op v_i v_r v_s v_a v_b v_fault v_word v_kF)) hD hS hA [0, 1, 2, 3, 4, 6] rfl
  refine va_callv (va_runV (As := [.int 1]) (rest := []) ⟨hx, hb, hml, hown, hts⟩ (kX2_demandBoth l D cI cB a_de a_ins a_mc a_me a_ps a_by a_ks a_rg a_d1 a_d2 a_src H.size v_fb v_sb v_op v_i v_r v_s v_a v_b v_fault v_word v_kF 1) (cwV 1 hts (gd_V wd_226 wd_227 wd_228 wd_225 wd_219) rfl rfl rfl hdX2_demandBoth ⟨Nat.le_of_ble_eq_true rfl, Nat.le_of_ble_eq_true rfl⟩) (preV_std (ci := 2) (q0 := 0) hPc hK hDc hNW rfl rfl) rfl rfl hl.1 rfl (lv_room (Nat.le_of_ble_eq_true rfl)) dX2_multiplyOrDivide_2 ⟨Nat.zero_le _, Nat.zero_le _⟩) hS (fun q _ h => hFc q h) hFc (fun u_2 t9 H1 locs ht9 hvm9 hw9 hB9 hz9 hk9 hS => ?_)
  have eu_2 : u_2 = fX2_demandBoth 1 v_fb v_sb v_r v_s v_a v_b v_fault v_word v_kF := hw9
  obtain ⟨hP, hD⟩ := back_std (w1 := (wX2_demandBoth cI cB a_de a_ins a_mc a_me a_ps a_by a_ks a_rg a_d1 a_d2 a_src u_2.1 u_2.2.1 v_op v_i v_r v_s v_a v_b u_2.2.2 v_word v_kF)) (w2 := (wX2_multiplyOrDivide cI cB a_de a_ins a_mc a_me a_ps a_by a_ks a_rg a_d1 a_dg1 a_d2 a_dg2 a_src u_2.1 u_2.2.1 v_op v_i v_r v_s v_a v_b u_2.2.2 v_word v_bF v_kF v_below1 v_dF1 v_below2 v_dF2)) (wr := [(a_by, .inl (cB, 8192, .inl v_bF)), (a_d1, .inr (1, [.ref a_dg1, .int v_below1])), (a_dg1, .inl (cI, 32, .inl v_dF1)), (a_d2, .inr (1, [.ref a_dg2, .int v_below2])), (a_dg2, .inl (cI, 32, .inl v_dF2))]) hP hD [0, 1, 2, 3, 4, 6] [5, 7, 8, 9, 10] [5, 6, 7, 8, 9, 0, 10, 1, 2, 3, 4] rfl rfl (by decide) (by decide) hk9 hFc hB9 ht9 (by decide) rfl
  clear hB9 hk9 hz9 hvm9 ht9 hFc hPc hDc
  generalize H1 = H at hP hS ⊢
  refine lv_aload_n hx hb dX2_multiplyOrDivide_5 rfl (lv_at hl 0 rfl) ?_
  refine va_get (D := D) (ci := 2) (v := .int u_2.2.1) (C := RX2) (T := TX2) (N := 8) hx hb hts in_X2 hown hK hP 0 rfl rfl 7 (by decide) q_0 (fun _ h9 => h9) rfl dX2_multiplyOrDivide_6 ?_
  refine lv_bipush (v := 8) hx hb dX2_multiplyOrDivide_9 (by decide) ?_
  have J_34 : ∀ (m_34 : Int32), m_34 = (if 8 < u_2.2.1 then (let u_31 := fX5_fail 6 u_2.2.2; u_31) else (if u_2.2.1 < u_2.1 then (u_2.2.2) else (let u_31 := fX5_fail 6 u_2.2.2; u_31))) → ∀ (H : Heap) (locs : List Loc), va_P D vwCl (wX2_multiplyOrDivide cI cB a_de a_ins a_mc a_me a_ps a_by a_ks a_rg a_d1 a_dg1 a_d2 a_dg2 a_src u_2.1 u_2.2.1 v_op v_i v_r v_s v_a v_b m_34 v_word v_bF v_kF v_below1 v_dF1 v_below2 v_dF2) H → va_D A (wX2_multiplyOrDivide cI cB a_de a_ins a_mc a_me a_ps a_by a_ks a_rg a_d1 a_dg1 a_d2 a_dg2 a_src u_2.1 u_2.2.1 v_op v_i v_r v_s v_a v_b m_34 v_word v_bF v_kF v_below1 v_dF1 v_below2 v_dF2) → va_S A s.heap H locs → ∀ (ls : Array Slot), lv_has ls 1 [(0, .ref a_de)] → W p l e rmX2_multiplyOrDivide s m ([.ref a_de] : List Value).toArray below meth c H locs 0 0 (MQ below (qX2_multiplyOrDivide D cI cB a_de a_ins a_mc a_me a_ps a_by a_ks a_rg a_d1 a_dg1 a_d2 a_dg2 a_src v_fb v_sb v_op v_i v_r v_s v_a v_b v_fault v_word v_bF v_kF v_below1 v_dF1 v_below2 v_dF2 A) ([.ref a_de] : List Value).toArray s 0 0 A) (F0 m 34 ls []) := by
    intro m_34 em_34 H locs hP hD hS ls hl
    try dsimp only at em_34
    refine lv_aload_n hx hb dX2_multiplyOrDivide_34 rfl (lv_at hl 0 rfl) ?_
    refine lv_iconst (v := 0) hx hb dX2_multiplyOrDivide_35 (by decide) ?_
    have hPc : va_P D vwCl (wX2_takeBoth cI cB a_de a_ins a_mc a_me a_ps a_by a_ks a_rg a_d1 a_dg1 a_d2 a_dg2 a_src u_2.1 u_2.2.1 v_op v_i v_r v_s v_a v_b m_34 v_bF v_below1 v_dF1 v_below2 v_dF2) H := hP.sub [0, 1, 2, 3, 5, 7, 8, 9, 10] rfl
    have hDc : va_D A (wX2_takeBoth cI cB a_de a_ins a_mc a_me a_ps a_by a_ks a_rg a_d1 a_dg1 a_d2 a_dg2 a_src u_2.1 u_2.2.1 v_op v_i v_r v_s v_a v_b m_34 v_bF v_below1 v_dF1 v_below2 v_dF2) := hD.sub [0, 1, 2, 3, 5, 7, 8, 9, 10] (by decide) rfl
    have hFc := va_free (wc := (wX2_takeBoth cI cB a_de a_ins a_mc a_me a_ps a_by a_ks a_rg a_d1 a_dg1 a_d2 a_dg2 a_src u_2.1 u_2.2.1 v_op v_i v_r v_s v_a v_b m_34 v_bF v_below1 v_dF1 v_below2 v_dF2)) hD hS hA [0, 1, 2, 3, 5, 7, 8, 9, 10] rfl
    refine va_callv (va_runV (As := [.int 0]) (rest := []) ⟨hx, hb, hml, hown, hts⟩ (kX2_takeBoth l D cI cB a_de a_ins a_mc a_me a_ps a_by a_ks a_rg a_d1 a_dg1 a_d2 a_dg2 a_src H.size u_2.1 u_2.2.1 v_op v_i v_r v_s v_a v_b m_34 v_bF v_below1 v_dF1 v_below2 v_dF2 0) (cwV 1 hts (gd_V wd_255 wd_256 wd_257 wd_225 wd_235) rfl rfl rfl hdX2_takeBoth ⟨Nat.le_of_ble_eq_true rfl, Nat.le_of_ble_eq_true rfl⟩) (preV_std (ci := 2) (q0 := 0) hPc hK hDc hNW rfl rfl) rfl rfl hl.1 rfl (lv_room (Nat.le_of_ble_eq_true rfl)) dX2_multiplyOrDivide_36 ⟨Nat.zero_le _, Nat.zero_le _⟩) hS (fun q _ h => hFc q h) hFc (fun u_36 t9 H1 locs ht9 hvm9 hw9 hB9 hz9 hk9 hS => ?_)
    have eu_36 : u_36 = fX2_takeBoth 0 u_2.1 u_2.2.1 v_a v_b m_34 v_bF v_below1 v_dF1 v_below2 v_dF2 := hw9
    obtain ⟨hP, hD⟩ := back_std (w1 := (wX2_takeBoth cI cB a_de a_ins a_mc a_me a_ps a_by a_ks a_rg a_d1 a_dg1 a_d2 a_dg2 a_src u_2.1 u_2.2.1 v_op v_i v_r v_s v_a v_b u_36.1 v_bF u_36.2.1 u_36.2.2.1 u_36.2.2.2.1 u_36.2.2.2.2)) (w2 := (wX2_multiplyOrDivide cI cB a_de a_ins a_mc a_me a_ps a_by a_ks a_rg a_d1 a_dg1 a_d2 a_dg2 a_src u_2.1 u_2.2.1 v_op v_i v_r v_s v_a v_b u_36.1 v_word v_bF v_kF u_36.2.1 u_36.2.2.1 u_36.2.2.2.1 u_36.2.2.2.2)) (wr := [(a_ps, .inr (7, [.long v_word])), (a_ks, .inl (cI, 4, .inl v_kF))]) hP hD [0, 1, 2, 3, 5, 7, 8, 9, 10] [4, 6] [2, 3, 4, 5, 0, 6, 1, 7, 8, 9, 10] rfl rfl (by decide) (by decide) hk9 hFc hB9 ht9 (by decide) rfl
    clear hB9 hk9 hz9 hvm9 ht9 hFc hPc hDc
    generalize H1 = H at hP hS ⊢
    refine lv_aload_n hx hb dX2_multiplyOrDivide_39 rfl (lv_at hl 0 rfl) ?_
    refine va_get (D := D) (ci := 2) (v := .ref a_mc) (C := RX2) (T := TX2) (N := 8) hx hb hts in_X2 hown hK hP 0 rfl rfl 0 (by decide) q_1 (fun _ h9 => h9) rfl dX2_multiplyOrDivide_40 ?_
    have hPc : va_P D vwCl (wX5_fine cI cB a_mc a_me a_ps a_rg u_36.1) H := hP.sub [2] rfl
    have hDc : va_D A (wX5_fine cI cB a_mc a_me a_ps a_rg u_36.1) := hD.sub [2] (by decide) rfl
    have hFc := va_free (wc := (wX5_fine cI cB a_mc a_me a_ps a_rg u_36.1)) hD hS hA [2] rfl
    refine va_calli (va_runV (As := []) (rest := []) ⟨hx, hb, hml, hown, hts⟩ (kX5_fine l D cI cB a_mc a_me a_ps a_rg H.size u_36.1 ) (cwV 0 hts (gd_V wd_199 wd_73 wd_74 wd_24 wd_66) rfl rfl rfl hdX5_fine ⟨Nat.le_of_ble_eq_true rfl, Nat.le_of_ble_eq_true rfl⟩) (preV_std (ci := 5) (q0 := 0) hPc hK hDc hNW rfl rfl) rfl rfl hl.1 rfl (lv_room (Nat.le_of_ble_eq_true rfl)) dX2_multiplyOrDivide_43 ⟨Nat.zero_le _, Nat.zero_le _⟩) hS (fun q _ h => hFc q h) hFc (fun r_43 u_43 t9 H1 locs ht9 hvm9 hw9 hB9 hz9 hk9 hS => ?_)
    have er_43 : r_43 = fX5_fine u_36.1 := hw9
    have zr_43 : r_43 = 0 ∨ r_43 = 1 := by rw [er_43]; exact zX5_fine _
    obtain ⟨hP, hD⟩ := back_std (w1 := (wX5_fine cI cB a_mc a_me a_ps a_rg u_36.1)) (w2 := (wX2_multiplyOrDivide cI cB a_de a_ins a_mc a_me a_ps a_by a_ks a_rg a_d1 a_dg1 a_d2 a_dg2 a_src u_2.1 u_2.2.1 v_op v_i v_r v_s v_a v_b u_36.1 v_word v_bF v_kF u_36.2.1 u_36.2.2.1 u_36.2.2.2.1 u_36.2.2.2.2)) (wr := [(a_de, .inr (2, [.ref a_mc, .ref a_ins, .ref a_me, .ref a_d1, .ref a_d2, .ref a_src, .int u_2.1, .int u_2.2.1])), (a_ins, .inr (4, [.ref a_mc, .ref a_me, .int v_op, .int v_i, .int v_r, .int v_s, .int v_a, .int v_b])), (a_me, .inr (6, [.ref a_by, .ref a_ks])), (a_ps, .inr (7, [.long v_word])), (a_by, .inl (cB, 8192, .inl v_bF)), (a_ks, .inl (cI, 4, .inl v_kF)), (a_d1, .inr (1, [.ref a_dg1, .int u_36.2.1])), (a_dg1, .inl (cI, 32, .inl u_36.2.2.1)), (a_d2, .inr (1, [.ref a_dg2, .int u_36.2.2.2.1])), (a_dg2, .inl (cI, 32, .inl u_36.2.2.2.2))]) hP hD [2] [0, 1, 3, 4, 5, 6, 7, 8, 9, 10] [0, 1, 10, 2, 3, 4, 5, 6, 7, 8, 9] rfl rfl (by decide) (by decide) hk9 hFc hB9 ht9 (by decide) rfl
    clear hB9 hk9 hz9 hvm9 ht9 hFc hPc hDc
    generalize H1 = H at hP hS ⊢
    refine lv_if_ne (tgt := 50) hx hb dX2_multiplyOrDivide_46 (by decide) (fun c_46 => ?_) (fun c_46 => ?_)
    · skip
      refine lv_aload_n hx hb dX2_multiplyOrDivide_50 rfl (lv_at hl 0 rfl) ?_
      refine va_get (D := D) (ci := 2) (v := .ref a_ins) (C := RX2) (T := TX2) (N := 8) hx hb hts in_X2 hown hK hP 0 rfl rfl 1 (by decide) q_3 (fun _ h9 => h9) rfl dX2_multiplyOrDivide_51 ?_
      refine va_getN (D := D) (ci := 4) (v := .int v_op) (C := RX4) (T := TX4) (N := 8) hx hb hts in_X4 hown hK hP 1 rfl rfl 2 (by decide) n_0 (fun _ h9 => h9) rfl dX2_multiplyOrDivide_54 ?_
      refine lv_sipush (v := 252) hx hb dX2_multiplyOrDivide_57 (by decide) ?_
      refine lv_icmp_ne (tgt := 70) hx hb dX2_multiplyOrDivide_60 (by decide) (fun c_60 => ?_) (fun c_60 => ?_)
      · skip
        refine lv_aload_n hx hb dX2_multiplyOrDivide_70 rfl (lv_at hl 0 rfl) ?_
        have hPc : va_P D vwCl (wX2_divide cI cB a_de a_ins a_mc a_me a_ps a_by a_ks a_rg a_d1 a_dg1 a_d2 a_dg2 a_src u_2.1 u_2.2.1 v_op v_i v_r v_s v_a v_b u_36.1 v_bF u_36.2.1 u_36.2.2.1 u_36.2.2.2.1 u_36.2.2.2.2) H := hP.sub [0, 1, 2, 3, 5, 7, 8, 9, 10] rfl
        have hDc : va_D A (wX2_divide cI cB a_de a_ins a_mc a_me a_ps a_by a_ks a_rg a_d1 a_dg1 a_d2 a_dg2 a_src u_2.1 u_2.2.1 v_op v_i v_r v_s v_a v_b u_36.1 v_bF u_36.2.1 u_36.2.2.1 u_36.2.2.2.1 u_36.2.2.2.2) := hD.sub [0, 1, 2, 3, 5, 7, 8, 9, 10] (by decide) rfl
        have hFc := va_free (wc := (wX2_divide cI cB a_de a_ins a_mc a_me a_ps a_by a_ks a_rg a_d1 a_dg1 a_d2 a_dg2 a_src u_2.1 u_2.2.1 v_op v_i v_r v_s v_a v_b u_36.1 v_bF u_36.2.1 u_36.2.2.1 u_36.2.2.2.1 u_36.2.2.2.2)) hD hS hA [0, 1, 2, 3, 5, 7, 8, 9, 10] rfl
        refine va_callv (va_runV (As := []) (rest := []) ⟨hx, hb, hml, hown, hts⟩ (kX2_divide l D cI cB a_de a_ins a_mc a_me a_ps a_by a_ks a_rg a_d1 a_dg1 a_d2 a_dg2 a_src H.size u_2.1 u_2.2.1 v_op v_i v_r v_s v_a v_b u_36.1 v_bF u_36.2.1 u_36.2.2.1 u_36.2.2.2.1 u_36.2.2.2.2  (by rw [eu_36]; exact zb_tb1 hz1)) (cwV 0 hts (gd_V wd_276 wd_277 wd_278 wd_225 wd_272) rfl rfl rfl hdX2_divide ⟨Nat.le_of_ble_eq_true rfl, Nat.le_of_ble_eq_true rfl⟩) (preV_std (ci := 2) (q0 := 0) hPc hK hDc hNW rfl rfl) rfl rfl hl.1 rfl (lv_room (Nat.le_of_ble_eq_true rfl)) dX2_multiplyOrDivide_71 ⟨Nat.zero_le _, Nat.zero_le _⟩) hS (fun q _ h => hFc q h) hFc (fun u_71 t9 H1 locs ht9 hvm9 hw9 hB9 hz9 hk9 hS => ?_)
        have eu_71 : u_71 = fX2_divide u_2.1 u_2.2.1 v_a u_36.1 v_bF u_36.2.1 u_36.2.2.1 u_36.2.2.2.1 u_36.2.2.2.2 := hw9
        obtain ⟨hP, hD⟩ := back_std (w1 := (wX2_divide cI cB a_de a_ins a_mc a_me a_ps a_by a_ks a_rg a_d1 a_dg1 a_d2 a_dg2 a_src u_2.1 u_2.2.1 v_op v_i v_r v_s v_a v_b u_71.1 u_71.2.1 u_71.2.2.1 u_71.2.2.2.1 u_71.2.2.2.2.1 u_71.2.2.2.2.2)) (w2 := (wX2_multiplyOrDivide cI cB a_de a_ins a_mc a_me a_ps a_by a_ks a_rg a_d1 a_dg1 a_d2 a_dg2 a_src u_2.1 u_2.2.1 v_op v_i v_r v_s v_a v_b u_71.1 v_word u_71.2.1 v_kF u_71.2.2.1 u_71.2.2.2.1 u_71.2.2.2.2.1 u_71.2.2.2.2.2)) (wr := [(a_ps, .inr (7, [.long v_word])), (a_ks, .inl (cI, 4, .inl v_kF))]) hP hD [0, 1, 2, 3, 5, 7, 8, 9, 10] [4, 6] [2, 3, 4, 5, 0, 6, 1, 7, 8, 9, 10] rfl rfl (by decide) (by decide) hk9 hFc hB9 ht9 (by decide) rfl
        clear hB9 hk9 hz9 hvm9 ht9 hFc hPc hDc
        generalize H1 = H at hP hS ⊢
        have hf9 : (u_2.1, u_2.2.1, u_71.1, u_71.2.1, u_71.2.2.1, u_71.2.2.2.1, u_71.2.2.2.2.1, u_71.2.2.2.2.2) = fX2_multiplyOrDivide v_fb v_sb v_op v_r v_s v_a v_b v_fault v_word v_bF v_kF v_below1 v_dF1 v_below2 v_dF2 := by simp only [fX2_multiplyOrDivide, ← eu_2, ← em_34, ← eu_36, ← er_43, ← eu_71]; (try simp only [if_neg c_46, if_neg c_60])
        exact W.vret hx hb hr (fun t9 ht9 hW9 => ⟨⟨(u_2.1, u_2.2.1, u_71.1, u_71.2.1, u_71.2.2.1, u_71.2.2.2.1, u_71.2.2.2.2.1, u_71.2.2.2.2.2), rfl, hf9, ⟨by rw [ht9]; exact hP, va_K.moved hW9.alike hK, hD⟩⟩, hS.F ht9⟩) hS.2.2 dX2_multiplyOrDivide_74
      · skip
        refine lv_aload_n hx hb dX2_multiplyOrDivide_63 rfl (lv_at hl 0 rfl) ?_
        have hPc : va_P D vwCl (wX2_multiply cI cB a_de a_ins a_mc a_me a_ps a_by a_ks a_rg a_d1 a_dg1 a_d2 a_dg2 a_src u_2.1 u_2.2.1 v_op v_i v_r v_s v_a v_b u_36.1 v_bF u_36.2.1 u_36.2.2.1 u_36.2.2.2.1 u_36.2.2.2.2) H := hP.sub [0, 1, 2, 3, 5, 7, 8, 9, 10] rfl
        have hDc : va_D A (wX2_multiply cI cB a_de a_ins a_mc a_me a_ps a_by a_ks a_rg a_d1 a_dg1 a_d2 a_dg2 a_src u_2.1 u_2.2.1 v_op v_i v_r v_s v_a v_b u_36.1 v_bF u_36.2.1 u_36.2.2.1 u_36.2.2.2.1 u_36.2.2.2.2) := hD.sub [0, 1, 2, 3, 5, 7, 8, 9, 10] (by decide) rfl
        have hFc := va_free (wc := (wX2_multiply cI cB a_de a_ins a_mc a_me a_ps a_by a_ks a_rg a_d1 a_dg1 a_d2 a_dg2 a_src u_2.1 u_2.2.1 v_op v_i v_r v_s v_a v_b u_36.1 v_bF u_36.2.1 u_36.2.2.1 u_36.2.2.2.1 u_36.2.2.2.2)) hD hS hA [0, 1, 2, 3, 5, 7, 8, 9, 10] rfl
        refine va_callv (va_runV (As := []) (rest := []) ⟨hx, hb, hml, hown, hts⟩ (kX2_multiply l D cI cB a_de a_ins a_mc a_me a_ps a_by a_ks a_rg a_d1 a_dg1 a_d2 a_dg2 a_src H.size u_2.1 u_2.2.1 v_op v_i v_r v_s v_a v_b u_36.1 v_bF u_36.2.1 u_36.2.2.1 u_36.2.2.2.1 u_36.2.2.2.2 ) (cwV 0 hts (gd_V wd_273 wd_274 wd_275 wd_225 wd_268) rfl rfl rfl hdX2_multiply ⟨Nat.le_of_ble_eq_true rfl, Nat.le_of_ble_eq_true rfl⟩) (preV_std (ci := 2) (q0 := 0) hPc hK hDc hNW rfl rfl) rfl rfl hl.1 rfl (lv_room (Nat.le_of_ble_eq_true rfl)) dX2_multiplyOrDivide_64 ⟨Nat.zero_le _, Nat.zero_le _⟩) hS (fun q _ h => hFc q h) hFc (fun u_64 t9 H1 locs ht9 hvm9 hw9 hB9 hz9 hk9 hS => ?_)
        have eu_64 : u_64 = fX2_multiply u_2.1 u_2.2.1 v_a u_36.1 v_bF u_36.2.1 u_36.2.2.1 u_36.2.2.2.1 u_36.2.2.2.2 := hw9
        obtain ⟨hP, hD⟩ := back_std (w1 := (wX2_multiply cI cB a_de a_ins a_mc a_me a_ps a_by a_ks a_rg a_d1 a_dg1 a_d2 a_dg2 a_src u_2.1 u_2.2.1 v_op v_i v_r v_s v_a v_b u_64.1 u_64.2.1 u_64.2.2.1 u_64.2.2.2 u_36.2.2.2.1 u_36.2.2.2.2)) (w2 := (wX2_multiplyOrDivide cI cB a_de a_ins a_mc a_me a_ps a_by a_ks a_rg a_d1 a_dg1 a_d2 a_dg2 a_src u_2.1 u_2.2.1 v_op v_i v_r v_s v_a v_b u_64.1 v_word u_64.2.1 v_kF u_64.2.2.1 u_64.2.2.2 u_36.2.2.2.1 u_36.2.2.2.2)) (wr := [(a_ps, .inr (7, [.long v_word])), (a_ks, .inl (cI, 4, .inl v_kF))]) hP hD [0, 1, 2, 3, 5, 7, 8, 9, 10] [4, 6] [2, 3, 4, 5, 0, 6, 1, 7, 8, 9, 10] rfl rfl (by decide) (by decide) hk9 hFc hB9 ht9 (by decide) rfl
        clear hB9 hk9 hz9 hvm9 ht9 hFc hPc hDc
        generalize H1 = H at hP hS ⊢
        refine lv_goto (tgt := 74) hx hb dX2_multiplyOrDivide_67 (by decide) ?_
        have hf9 : (u_2.1, u_2.2.1, u_64.1, u_64.2.1, u_64.2.2.1, u_64.2.2.2, u_36.2.2.2.1, u_36.2.2.2.2) = fX2_multiplyOrDivide v_fb v_sb v_op v_r v_s v_a v_b v_fault v_word v_bF v_kF v_below1 v_dF1 v_below2 v_dF2 := by simp only [fX2_multiplyOrDivide, ← eu_2, ← em_34, ← eu_36, ← er_43, ← eu_64]; (try simp only [if_neg c_46, if_pos c_60])
        exact W.vret hx hb hr (fun t9 ht9 hW9 => ⟨⟨(u_2.1, u_2.2.1, u_64.1, u_64.2.1, u_64.2.2.1, u_64.2.2.2, u_36.2.2.2.1, u_36.2.2.2.2), rfl, hf9, ⟨by rw [ht9]; exact hP, va_K.moved hW9.alike hK, hD⟩⟩, hS.F ht9⟩) hS.2.2 dX2_multiplyOrDivide_74
    · skip
      have hf9 : (u_2.1, u_2.2.1, u_36.1, v_bF, u_36.2.1, u_36.2.2.1, u_36.2.2.2.1, u_36.2.2.2.2) = fX2_multiplyOrDivide v_fb v_sb v_op v_r v_s v_a v_b v_fault v_word v_bF v_kF v_below1 v_dF1 v_below2 v_dF2 := by simp only [fX2_multiplyOrDivide, ← eu_2, ← em_34, ← eu_36, ← er_43]; (try simp only [if_pos c_46])
      exact W.vret hx hb hr (fun t9 ht9 hW9 => ⟨⟨(u_2.1, u_2.2.1, u_36.1, v_bF, u_36.2.1, u_36.2.2.1, u_36.2.2.2.1, u_36.2.2.2.2), rfl, hf9, ⟨by rw [ht9]; exact hP, va_K.moved hW9.alike hK, hD⟩⟩, hS.F ht9⟩) hS.2.2 dX2_multiplyOrDivide_49
  refine lv_icmp_gt (tgt := 25) hx hb dX2_multiplyOrDivide_11 (by decide) (fun c_11 => ?_) (fun c_11 => ?_)
  · skip
    refine lv_aload_n hx hb dX2_multiplyOrDivide_25 rfl (lv_at hl 0 rfl) ?_
    refine va_get (D := D) (ci := 2) (v := .ref a_mc) (C := RX2) (T := TX2) (N := 8) hx hb hts in_X2 hown hK hP 0 rfl rfl 0 (by decide) q_1 (fun _ h9 => h9) rfl dX2_multiplyOrDivide_26 ?_
    refine lv_bipush (v := 6) hx hb dX2_multiplyOrDivide_29 (by decide) ?_
    have hPc : va_P D vwCl (wX5_fail cI cB a_mc a_me a_ps a_rg u_2.2.2) H := hP.sub [2] rfl
    have hDc : va_D A (wX5_fail cI cB a_mc a_me a_ps a_rg u_2.2.2) := hD.sub [2] (by decide) rfl
    have hFc := va_free (wc := (wX5_fail cI cB a_mc a_me a_ps a_rg u_2.2.2)) hD hS hA [2] rfl
    refine va_callv (va_runV (As := [.int 6]) (rest := []) ⟨hx, hb, hml, hown, hts⟩ (kX5_fail l D cI cB a_mc a_me a_ps a_rg H.size u_2.2.2 6) (cwV 1 hts (gd_V wd_211 wd_54 wd_55 wd_24 wd_46) rfl rfl rfl hdX5_fail ⟨Nat.le_of_ble_eq_true rfl, Nat.le_of_ble_eq_true rfl⟩) (preV_std (ci := 5) (q0 := 0) hPc hK hDc hNW rfl rfl) rfl rfl hl.1 rfl (lv_room (Nat.le_of_ble_eq_true rfl)) dX2_multiplyOrDivide_31 ⟨Nat.zero_le _, Nat.zero_le _⟩) hS (fun q _ h => hFc q h) hFc (fun u_31 t9 H1 locs ht9 hvm9 hw9 hB9 hz9 hk9 hS => ?_)
    have eu_31 : u_31 = fX5_fail 6 u_2.2.2 := hw9
    obtain ⟨hP, hD⟩ := back_std (w1 := (wX5_fail cI cB a_mc a_me a_ps a_rg u_31)) (w2 := (wX2_multiplyOrDivide cI cB a_de a_ins a_mc a_me a_ps a_by a_ks a_rg a_d1 a_dg1 a_d2 a_dg2 a_src u_2.1 u_2.2.1 v_op v_i v_r v_s v_a v_b u_31 v_word v_bF v_kF v_below1 v_dF1 v_below2 v_dF2)) (wr := [(a_de, .inr (2, [.ref a_mc, .ref a_ins, .ref a_me, .ref a_d1, .ref a_d2, .ref a_src, .int u_2.1, .int u_2.2.1])), (a_ins, .inr (4, [.ref a_mc, .ref a_me, .int v_op, .int v_i, .int v_r, .int v_s, .int v_a, .int v_b])), (a_me, .inr (6, [.ref a_by, .ref a_ks])), (a_ps, .inr (7, [.long v_word])), (a_by, .inl (cB, 8192, .inl v_bF)), (a_ks, .inl (cI, 4, .inl v_kF)), (a_d1, .inr (1, [.ref a_dg1, .int v_below1])), (a_dg1, .inl (cI, 32, .inl v_dF1)), (a_d2, .inr (1, [.ref a_dg2, .int v_below2])), (a_dg2, .inl (cI, 32, .inl v_dF2))]) hP hD [2] [0, 1, 3, 4, 5, 6, 7, 8, 9, 10] [0, 1, 10, 2, 3, 4, 5, 6, 7, 8, 9] rfl rfl (by decide) (by decide) hk9 hFc hB9 ht9 (by decide) rfl
    clear hB9 hk9 hz9 hvm9 ht9 hFc hPc hDc
    generalize H1 = H at hP hS ⊢
    exact J_34 u_31 (by (try simp only [← eu_31]); (try simp only [if_pos c_11])) _ _ hP hD hS ls (lv_sub hl [0] rfl)
  · skip
    refine lv_aload_n hx hb dX2_multiplyOrDivide_14 rfl (lv_at hl 0 rfl) ?_
    refine va_get (D := D) (ci := 2) (v := .int u_2.2.1) (C := RX2) (T := TX2) (N := 8) hx hb hts in_X2 hown hK hP 0 rfl rfl 7 (by decide) q_0 (fun _ h9 => h9) rfl dX2_multiplyOrDivide_15 ?_
    refine lv_aload_n hx hb dX2_multiplyOrDivide_18 rfl (lv_at hl 0 rfl) ?_
    refine va_get (D := D) (ci := 2) (v := .int u_2.1) (C := RX2) (T := TX2) (N := 8) hx hb hts in_X2 hown hK hP 0 rfl rfl 6 (by decide) q_2 (fun _ h9 => h9) rfl dX2_multiplyOrDivide_19 ?_
    refine lv_icmp_lt (tgt := 34) hx hb dX2_multiplyOrDivide_22 (by decide) (fun c_22 => ?_) (fun c_22 => ?_)
    · skip
      exact J_34 u_2.2.2 (by (try simp only [if_neg c_11, if_pos c_22])) _ _ hP hD hS ls (lv_sub hl [0] rfl)
    · skip
      refine lv_aload_n hx hb dX2_multiplyOrDivide_25 rfl (lv_at hl 0 rfl) ?_
      refine va_get (D := D) (ci := 2) (v := .ref a_mc) (C := RX2) (T := TX2) (N := 8) hx hb hts in_X2 hown hK hP 0 rfl rfl 0 (by decide) q_1 (fun _ h9 => h9) rfl dX2_multiplyOrDivide_26 ?_
      refine lv_bipush (v := 6) hx hb dX2_multiplyOrDivide_29 (by decide) ?_
      have hPc : va_P D vwCl (wX5_fail cI cB a_mc a_me a_ps a_rg u_2.2.2) H := hP.sub [2] rfl
      have hDc : va_D A (wX5_fail cI cB a_mc a_me a_ps a_rg u_2.2.2) := hD.sub [2] (by decide) rfl
      have hFc := va_free (wc := (wX5_fail cI cB a_mc a_me a_ps a_rg u_2.2.2)) hD hS hA [2] rfl
      refine va_callv (va_runV (As := [.int 6]) (rest := []) ⟨hx, hb, hml, hown, hts⟩ (kX5_fail l D cI cB a_mc a_me a_ps a_rg H.size u_2.2.2 6) (cwV 1 hts (gd_V wd_211 wd_54 wd_55 wd_24 wd_46) rfl rfl rfl hdX5_fail ⟨Nat.le_of_ble_eq_true rfl, Nat.le_of_ble_eq_true rfl⟩) (preV_std (ci := 5) (q0 := 0) hPc hK hDc hNW rfl rfl) rfl rfl hl.1 rfl (lv_room (Nat.le_of_ble_eq_true rfl)) dX2_multiplyOrDivide_31 ⟨Nat.zero_le _, Nat.zero_le _⟩) hS (fun q _ h => hFc q h) hFc (fun u_31 t9 H1 locs ht9 hvm9 hw9 hB9 hz9 hk9 hS => ?_)
      have eu_31 : u_31 = fX5_fail 6 u_2.2.2 := hw9
      obtain ⟨hP, hD⟩ := back_std (w1 := (wX5_fail cI cB a_mc a_me a_ps a_rg u_31)) (w2 := (wX2_multiplyOrDivide cI cB a_de a_ins a_mc a_me a_ps a_by a_ks a_rg a_d1 a_dg1 a_d2 a_dg2 a_src u_2.1 u_2.2.1 v_op v_i v_r v_s v_a v_b u_31 v_word v_bF v_kF v_below1 v_dF1 v_below2 v_dF2)) (wr := [(a_de, .inr (2, [.ref a_mc, .ref a_ins, .ref a_me, .ref a_d1, .ref a_d2, .ref a_src, .int u_2.1, .int u_2.2.1])), (a_ins, .inr (4, [.ref a_mc, .ref a_me, .int v_op, .int v_i, .int v_r, .int v_s, .int v_a, .int v_b])), (a_me, .inr (6, [.ref a_by, .ref a_ks])), (a_ps, .inr (7, [.long v_word])), (a_by, .inl (cB, 8192, .inl v_bF)), (a_ks, .inl (cI, 4, .inl v_kF)), (a_d1, .inr (1, [.ref a_dg1, .int v_below1])), (a_dg1, .inl (cI, 32, .inl v_dF1)), (a_d2, .inr (1, [.ref a_dg2, .int v_below2])), (a_dg2, .inl (cI, 32, .inl v_dF2))]) hP hD [2] [0, 1, 3, 4, 5, 6, 7, 8, 9, 10] [0, 1, 10, 2, 3, 4, 5, 6, 7, 8, 9] rfl rfl (by decide) (by decide) hk9 hFc hB9 ht9 (by decide) rfl
      clear hB9 hk9 hz9 hvm9 ht9 hFc hPc hDc
      generalize H1 = H at hP hS ⊢
      exact J_34 u_31 (by (try simp only [← eu_31]); (try simp only [if_neg c_11, if_neg c_22])) _ _ hP hD hS ls (lv_sub hl [0] rfl)
theorem hdX2_multiplyOrDivide : yX2_multiplyOrDivide.cls = RX2 ∧ yX2_multiplyOrDivide.cls ≠ "java/lang/invoke/MethodHandle" ∧ yX2_multiplyOrDivide.cls ≠ "java/lang/invoke/VarHandle" ∧ (parseMethodDescriptor yX2_multiplyOrDivide.desc).map (fun d => d.parameters.length) = some 0 := by decide +kernel
