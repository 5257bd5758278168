noncomputable def fX11_register (x0 : Int32) (v_rF : (Nat → Int32)) : Int32 :=
  if x0 < 0 then (0) else (if x0 ≤ 15 then (let r_23 := fX5_reg x0 v_rF; r_23) else (0))
noncomputable def tX11_register (x0 : Int32) (v_rF : (Nat → Int32)) : Int32 :=
  if x0 < 0 then (1) else (if x0 ≤ 15 then (let r_23 := fX5_reg x0 v_rF; 0) else (1))
abbrev wX11_register (cI cB : ClassId) (a_core a_wo a_sh a_co a_st a_de a_ed a_ins a_mc a_me a_ps a_rg a_it : Nat) (v_wanted : Int32) (v_fault : Int32) (v_rF : (Nat → Int32)) : va_W := [(a_core, .inr (11, [.ref a_mc, .ref a_ins, .ref a_wo, .ref a_sh, .ref a_co, .ref a_st, .ref a_de, .ref a_ed, .ref a_it, .int v_wanted])), (a_mc, .inr (5, [.ref a_me, .ref a_ps, .ref a_rg, .int v_fault])), (a_rg, .inl (cI, 16, .inl v_rF))]
abbrev rmX11_register : Room := { frames := 6, cells := 1, slots := 6, locals := 81 }
abbrev qX11_register (D : va_G) (cI cB : ClassId) (a_core a_wo a_sh a_co a_st a_de a_ed a_ins a_mc a_me a_ps a_rg a_it : Nat) (v_wanted : Int32) (v_fault : Int32) (v_rF : (Nat → Int32)) (x0 : Int32) : (Nat → Prop) → Array Value → State → Outcome → State → Prop := fun A9 => va_Qi (fun (r9 : Int32) (u9 : Unit) => tX11_register x0 v_rF = 0 ∧ (r9 = fX11_register x0 v_rF)) (fun u9 t9 => atW D (TYS cI cB) A9 (wX11_register cI cB a_core a_wo a_sh a_co a_st a_de a_ed a_ins a_mc a_me a_ps a_rg a_it v_wanted v_fault v_rF) t9) A9
abbrev xX11_register (D : va_G) (cI cB : ClassId) (a_core a_wo a_sh a_co a_st a_de a_ed a_ins a_mc a_me a_ps a_rg a_it : Nat) (v_wanted : Int32) (v_fault : Int32) (v_rF : (Nat → Int32)) (x0 : Int32) : (Nat → Prop) → String → State → State → Prop := fun A9 => vx_X (S := Unit) (fun _ => tX11_register x0 v_rF = 1) (fun E9 _ t9 => E9 = "java/lang/IndexOutOfBoundsException" ∧ atW D (TYS cI cB) A9 (wX11_register cI cB a_core a_wo a_sh a_co a_st a_de a_ed a_ins a_mc a_me a_ps a_rg a_it v_wanted v_fault v_rF) t9) A9
set_option maxHeartbeats 4000000 in
set_option maxRecDepth 100000 in
theorem kX11_register (l : Launch) (D : va_G) (cI cB : ClassId) (aO aN : Nat) (a_core a_wo a_sh a_co a_st a_de a_ed a_ins a_mc a_me a_ps a_rg a_it : Nat) (sz : Nat) (v_wanted : Int32) (v_fault : Int32) (v_rF : (Nat → Int32)) (x0 : Int32) (hst : l.stackTraces = false) : MetX aO aN l yX11_register (WK yX11_register cX11_register 2 (some .int)) rmX11_register D (TYS cI cB) (wX11_register cI cB a_core a_wo a_sh a_co a_st a_de a_ed a_ins a_mc a_me a_ps a_rg a_it v_wanted v_fault v_rF) sz [.ref a_core, .int x0] (qX11_register D cI cB a_core a_wo a_sh a_co a_st a_de a_ed a_ins a_mc a_me a_ps a_rg a_it v_wanted v_fault v_rF x0) (xX11_register D cI cB a_core a_wo a_sh a_co a_st a_de a_ed a_ins a_mc a_me a_ps a_rg a_it v_wanted v_fault v_rF x0) := by
  refine met_stdX (by decide) rfl (Nat.le_of_ble_eq_true rfl) ?_
  intro p e s m below meth c A ls H hx hb hr hml hown hts hlocks hA hP hK hD hS hNW hZT hTW hTN hout hl
  have hl : lv_has ls 2 [(0, .ref a_core), (1, .int x0)] := hl
  have q_0 := hts _ (List.mem_cons_of_mem _ wd_597)
  have q_1 := hts _ (List.mem_cons_of_mem _ wd_598)
  have q_2 := hts _ (List.mem_cons_of_mem _ wd_557)
  refine lv_iload_n hx hb dX11_register_0 rfl (lv_at hl 1 rfl) ?_
  refine lv_if_lt (tgt := 10) hx hb dX11_register_1 (by decide) (fun c_1 => ?_) (fun c_1 => ?_)
  · skip
    have hbad : (1 : Int32) = tX11_register x0 v_rF := by simp only [tX11_register]; (try simp only [if_pos c_1])
    exact vx_throw0 (mc := 1) (ms := 6) (A := A) (names := ["java/lang/RuntimeException", "java/lang/Exception"]) hx hb hst hown (by decide) (by decide) q_0 q_1 (vx_hat (L := vxw1) (fun w h => hts w (in_vx1 w h)) (fun w h => h) (vxh1 hTN)) vxg1 hTW.1 hTW.2 hS (hl.1.trans hml.symm) dX11_register_10 dX11_register_13 dX11_register_14 dX11_register_17 (fun x h => absurd h (hout x)) (Nat.le_of_ble_eq_true rfl) (Nat.le_of_ble_eq_true rfl) (Nat.le_of_ble_eq_true rfl) (Nat.le_of_ble_eq_true rfl) hlocks (fun t9 hv9 hz9 hq9 => ⟨(), hbad.symm, ⟨rfl, hP.kept (fun k q hk => hq9 q.1 (hP k q hk).lt), va_K.moved hv9 hK, hD⟩, ⟨Nat.le_trans hS.1 hz9, fun q h1 h2 => (hq9 q (Nat.lt_of_lt_of_le h1 hS.1)).trans (hS.2.1 q h1 h2)⟩⟩) hS.2.2 (Nat.le_of_ble_eq_true rfl) (Nat.le_of_ble_eq_true rfl)
  · skip
    refine lv_iload_n hx hb dX11_register_4 rfl (lv_at hl 1 rfl) ?_
    refine lv_bipush (v := 15) hx hb dX11_register_5 (by decide) ?_
    refine lv_icmp_le (tgt := 18) hx hb dX11_register_7 (by decide) (fun c_7 => ?_) (fun c_7 => ?_)
    · skip
      refine lv_aload_n hx hb dX11_register_18 rfl (lv_at hl 0 rfl) ?_
      refine va_get (D := D) (ci := 11) (v := .ref a_mc) (C := RX11) (T := TX11) (N := 10) hx hb hts in_X11 hown hK hP 0 rfl rfl 0 (by decide) q_2 (fun _ h9 => h9) rfl dX11_register_19 ?_
      refine lv_iload_n hx hb dX11_register_22 rfl (lv_at hl 1 rfl) ?_
      have hPc : va_P D vwCl (wX5_reg cI cB a_mc a_me a_ps a_rg v_fault v_rF) H := hP.sub [1, 2] rfl
      have hDc : va_D A (wX5_reg cI cB a_mc a_me a_ps a_rg v_fault v_rF) := hD.sub [1, 2] (by decide) rfl
      have hFc := va_free (wc := (wX5_reg cI cB a_mc a_me a_ps a_rg v_fault v_rF)) hD hS hA [1, 2] rfl
      refine va_calli (va_runV (As := [.int x0]) (rest := []) ⟨hx, hb, hml, hown, hts⟩ (kX5_reg l D cI cB a_mc a_me a_ps a_rg H.size v_fault v_rF x0) (cwV 1 hts (gd_V wd_599 wd_31 wd_32 wd_24 wd_29) rfl rfl rfl hdX5_reg ⟨Nat.le_of_ble_eq_true rfl, Nat.le_of_ble_eq_true rfl⟩) (preV_std (ci := 5) (q0 := 0) hPc hK hDc hNW rfl rfl) rfl rfl hl.1 rfl (lv_room (Nat.le_of_ble_eq_true rfl)) dX11_register_23 ⟨Nat.zero_le _, Nat.zero_le _⟩) hS (fun q _ h => hFc q h) hFc (fun r_23 u_23 t9 H1 locs ht9 hvm9 hw9 hB9 hz9 hk9 hS => ?_)
      have er_23 : r_23 = fX5_reg x0 v_rF := hw9
      obtain ⟨hP, hD⟩ := back_std (w1 := (wX5_reg cI cB a_mc a_me a_ps a_rg v_fault v_rF)) (w2 := (wX11_register cI cB a_core a_wo a_sh a_co a_st a_de a_ed a_ins a_mc a_me a_ps a_rg a_it v_wanted v_fault v_rF)) (wr := [(a_core, .inr (11, [.ref a_mc, .ref a_ins, .ref a_wo, .ref a_sh, .ref a_co, .ref a_st, .ref a_de, .ref a_ed, .ref a_it, .int v_wanted]))]) hP hD [1, 2] [0] [0, 1, 2] rfl rfl (by decide) (by decide) hk9 hFc hB9 ht9 (by decide) rfl
      clear hB9 hk9 hz9 hvm9 ht9 hFc hPc hDc
      generalize H1 = H at hP hS ⊢
      have hf9 : r_23 = fX11_register x0 v_rF := by simp only [fX11_register, ← er_23]; (try simp only [if_neg c_1, if_pos c_7])
      have hok : (0 : Int32) = tX11_register x0 v_rF := by simp only [tX11_register, ← er_23]; (try simp only [if_neg c_1, if_pos c_7])
      refine W.widen (k := 1) (n := 6) (Nat.le_of_ble_eq_true rfl) (Nat.le_of_ble_eq_true rfl) (vx_ret ?_)
      exact W.iret hx hb hr (fun t9 ht9 hW9 => ⟨⟨r_23, (), rfl, ⟨hok.symm, hf9⟩, ⟨by rw [ht9]; exact hP, va_K.moved hW9.alike hK, hD⟩⟩, hS.F ht9⟩) hS.2.2 dX11_register_26
    · skip
      have hbad : (1 : Int32) = tX11_register x0 v_rF := by simp only [tX11_register]; (try simp only [if_neg c_1, if_neg c_7])
      exact vx_throw0 (mc := 1) (ms := 6) (A := A) (names := ["java/lang/RuntimeException", "java/lang/Exception"]) hx hb hst hown (by decide) (by decide) q_0 q_1 (vx_hat (L := vxw1) (fun w h => hts w (in_vx1 w h)) (fun w h => h) (vxh1 hTN)) vxg1 hTW.1 hTW.2 hS (hl.1.trans hml.symm) dX11_register_10 dX11_register_13 dX11_register_14 dX11_register_17 (fun x h => absurd h (hout x)) (Nat.le_of_ble_eq_true rfl) (Nat.le_of_ble_eq_true rfl) (Nat.le_of_ble_eq_true rfl) (Nat.le_of_ble_eq_true rfl) hlocks (fun t9 hv9 hz9 hq9 => ⟨(), hbad.symm, ⟨rfl, hP.kept (fun k q hk => hq9 q.1 (hP k q hk).lt), va_K.moved hv9 hK, hD⟩, ⟨Nat.le_trans hS.1 hz9, fun q h1 h2 => (hq9 q (Nat.lt_of_lt_of_le h1 hS.1)).trans (hS.2.1 q h1 h2)⟩⟩) hS.2.2 (Nat.le_of_ble_eq_true rfl) (Nat.le_of_ble_eq_true rfl)
theorem hdX11_register : yX11_register.cls = RX11 ∧ yX11_register.cls ≠ "java/lang/invoke/MethodHandle" ∧ yX11_register.cls ≠ "java/lang/invoke/VarHandle" ∧ (parseMethodDescriptor yX11_register.desc).map (fun d => d.parameters.length) = some 1 := by decide +kernel
noncomputable def fX11_put (x0 : Int32) (x1 : Int32) (v_rF : (Nat → Int32)) : (Nat → Int32) :=
  if x0 < 0 then (v_rF) else (if x0 ≤ 15 then (let u_24 := fX5_setReg x0 x1 v_rF; u_24) else (v_rF))
noncomputable def tX11_put (x0 : Int32) (x1 : Int32) (v_rF : (Nat → Int32)) : Int32 :=
  if x0 < 0 then (1) else (if x0 ≤ 15 then (let u_24 := fX5_setReg x0 x1 v_rF; 0) else (1))
abbrev wX11_put (cI cB : ClassId) (a_core a_wo a_sh a_co a_st a_de a_ed a_ins a_mc a_me a_ps a_rg a_it : Nat) (v_wanted : Int32) (v_fault : Int32) (v_rF : (Nat → Int32)) : va_W := [(a_core, .inr (11, [.ref a_mc, .ref a_ins, .ref a_wo, .ref a_sh, .ref a_co, .ref a_st, .ref a_de, .ref a_ed, .ref a_it, .int v_wanted])), (a_mc, .inr (5, [.ref a_me, .ref a_ps, .ref a_rg, .int v_fault])), (a_rg, .inl (cI, 16, .inl v_rF))]
abbrev rmX11_put : Room := { frames := 6, cells := 1, slots := 6, locals := 81 }
abbrev qX11_put (D : va_G) (cI cB : ClassId) (a_core a_wo a_sh a_co a_st a_de a_ed a_ins a_mc a_me a_ps a_rg a_it : Nat) (v_wanted : Int32) (v_fault : Int32) (v_rF : (Nat → Int32)) (x0 : Int32) (x1 : Int32) : (Nat → Prop) → Array Value → State → Outcome → State → Prop := fun A9 => va_Qv (fun (u9 : (Nat → Int32)) => tX11_put x0 x1 v_rF = 0 ∧ (u9 = fX11_put x0 x1 v_rF)) (fun u9 t9 => atW D (TYS cI cB) A9 (wX11_put cI cB a_core a_wo a_sh a_co a_st a_de a_ed a_ins a_mc a_me a_ps a_rg a_it v_wanted v_fault u9) t9) A9
abbrev xX11_put (D : va_G) (cI cB : ClassId) (a_core a_wo a_sh a_co a_st a_de a_ed a_ins a_mc a_me a_ps a_rg a_it : Nat) (v_wanted : Int32) (v_fault : Int32) (v_rF : (Nat → Int32)) (x0 : Int32) (x1 : Int32) : (Nat → Prop) → String → State → State → Prop := fun A9 => vx_X (S := Unit) (fun _ => tX11_put x0 x1 v_rF = 1) (fun E9 _ t9 => E9 = "java/lang/IndexOutOfBoundsException" ∧ atW D (TYS cI cB) A9 (wX11_put cI cB a_core a_wo a_sh a_co a_st a_de a_ed a_ins a_mc a_me a_ps a_rg a_it v_wanted v_fault v_rF) t9) A9
set_option maxHeartbeats 4000000 in
set_option maxRecDepth 100000 in
theorem kX11_put (l : Launch) (D : va_G) (cI cB : ClassId) (aO aN : Nat) (a_core a_wo a_sh a_co a_st a_de a_ed a_ins a_mc a_me a_ps a_rg a_it : Nat) (sz : Nat) (v_wanted : Int32) (v_fault : Int32) (v_rF : (Nat → Int32)) (x0 : Int32) (x1 : Int32) (hst : l.stackTraces = false) : MetX aO aN l yX11_put (WK yX11_put cX11_put 3 none) rmX11_put D (TYS cI cB) (wX11_put cI cB a_core a_wo a_sh a_co a_st a_de a_ed a_ins a_mc a_me a_ps a_rg a_it v_wanted v_fault v_rF) sz [.ref a_core, .int x0, .int x1] (qX11_put D cI cB a_core a_wo a_sh a_co a_st a_de a_ed a_ins a_mc a_me a_ps a_rg a_it v_wanted v_fault v_rF x0 x1) (xX11_put D cI cB a_core a_wo a_sh a_co a_st a_de a_ed a_ins a_mc a_me a_ps a_rg a_it v_wanted v_fault v_rF x0 x1) := by
  refine met_stdX (by decide) rfl (Nat.le_of_ble_eq_true rfl) ?_
  intro p e s m below meth c A ls H hx hb hr hml hown hts hlocks hA hP hK hD hS hNW hZT hTW hTN hout hl
  have hl : lv_has ls 3 [(0, .ref a_core), (1, .int x0), (2, .int x1)] := hl
  have q_0 := hts _ (List.mem_cons_of_mem _ wd_597)
  have q_1 := hts _ (List.mem_cons_of_mem _ wd_598)
  have q_2 := hts _ (List.mem_cons_of_mem _ wd_557)
  refine lv_iload_n hx hb dX11_put_0 rfl (lv_at hl 1 rfl) ?_
  refine lv_if_lt (tgt := 10) hx hb dX11_put_1 (by decide) (fun c_1 => ?_) (fun c_1 => ?_)
  · skip
    have hbad : (1 : Int32) = tX11_put x0 x1 v_rF := by simp only [tX11_put]; (try simp only [if_pos c_1])
    exact vx_throw0 (mc := 1) (ms := 6) (A := A) (names := ["java/lang/RuntimeException", "java/lang/Exception"]) hx hb hst hown (by decide) (by decide) q_0 q_1 (vx_hat (L := vxw1) (fun w h => hts w (in_vx1 w h)) (fun w h => h) (vxh1 hTN)) vxg1 hTW.1 hTW.2 hS (hl.1.trans hml.symm) dX11_put_10 dX11_put_13 dX11_put_14 dX11_put_17 (fun x h => absurd h (hout x)) (Nat.le_of_ble_eq_true rfl) (Nat.le_of_ble_eq_true rfl) (Nat.le_of_ble_eq_true rfl) (Nat.le_of_ble_eq_true rfl) hlocks (fun t9 hv9 hz9 hq9 => ⟨(), hbad.symm, ⟨rfl, hP.kept (fun k q hk => hq9 q.1 (hP k q hk).lt), va_K.moved hv9 hK, hD⟩, ⟨Nat.le_trans hS.1 hz9, fun q h1 h2 => (hq9 q (Nat.lt_of_lt_of_le h1 hS.1)).trans (hS.2.1 q h1 h2)⟩⟩) hS.2.2 (Nat.le_of_ble_eq_true rfl) (Nat.le_of_ble_eq_true rfl)
  · skip
    refine lv_iload_n hx hb dX11_put_4 rfl (lv_at hl 1 rfl) ?_
    refine lv_bipush (v := 15) hx hb dX11_put_5 (by decide) ?_
    refine lv_icmp_le (tgt := 18) hx hb dX11_put_7 (by decide) (fun c_7 => ?_) (fun c_7 => ?_)
    · skip
      refine lv_aload_n hx hb dX11_put_18 rfl (lv_at hl 0 rfl) ?_
      refine va_get (D := D) (ci := 11) (v := .ref a_mc) (C := RX11) (T := TX11) (N := 10) hx hb hts in_X11 hown hK hP 0 rfl rfl 0 (by decide) q_2 (fun _ h9 => h9) rfl dX11_put_19 ?_
      refine lv_iload_n hx hb dX11_put_22 rfl (lv_at hl 1 rfl) ?_
      refine lv_iload_n hx hb dX11_put_23 rfl (lv_at hl 2 rfl) ?_
      have hPc : va_P D vwCl (wX5_setReg cI cB a_mc a_me a_ps a_rg v_fault v_rF) H := hP.sub [1, 2] rfl
      have hDc : va_D A (wX5_setReg cI cB a_mc a_me a_ps a_rg v_fault v_rF) := hD.sub [1, 2] (by decide) rfl
      have hFc := va_free (wc := (wX5_setReg cI cB a_mc a_me a_ps a_rg v_fault v_rF)) hD hS hA [1, 2] rfl
      refine va_callv (va_runV (As := [.int x0, .int x1]) (rest := []) ⟨hx, hb, hml, hown, hts⟩ (kX5_setReg l D cI cB a_mc a_me a_ps a_rg H.size v_fault v_rF x0 x1) (cwV 2 hts (gd_V wd_601 wd_22 wd_23 wd_24 wd_6) rfl rfl rfl hdX5_setReg ⟨Nat.le_of_ble_eq_true rfl, Nat.le_of_ble_eq_true rfl⟩) (preV_std (ci := 5) (q0 := 0) hPc hK hDc hNW rfl rfl) rfl rfl hl.1 rfl (lv_room (Nat.le_of_ble_eq_true rfl)) dX11_put_24 ⟨Nat.zero_le _, Nat.zero_le _⟩) hS (fun q _ h => hFc q h) hFc (fun u_24 t9 H1 locs ht9 hvm9 hw9 hB9 hz9 hk9 hS => ?_)
      have eu_24 : u_24 = fX5_setReg x0 x1 v_rF := hw9
      obtain ⟨hP, hD⟩ := back_std (w1 := (wX5_setReg cI cB a_mc a_me a_ps a_rg v_fault u_24)) (w2 := (wX11_put cI cB a_core a_wo a_sh a_co a_st a_de a_ed a_ins a_mc a_me a_ps a_rg a_it v_wanted v_fault u_24)) (wr := [(a_core, .inr (11, [.ref a_mc, .ref a_ins, .ref a_wo, .ref a_sh, .ref a_co, .ref a_st, .ref a_de, .ref a_ed, .ref a_it, .int v_wanted]))]) hP hD [1, 2] [0] [0, 1, 2] rfl rfl (by decide) (by decide) hk9 hFc hB9 ht9 (by decide) rfl
      clear hB9 hk9 hz9 hvm9 ht9 hFc hPc hDc
      generalize H1 = H at hP hS ⊢
      have hf9 : u_24 = fX11_put x0 x1 v_rF := by simp only [fX11_put, ← eu_24]; (try simp only [if_neg c_1, if_pos c_7])
      have hok : (0 : Int32) = tX11_put x0 x1 v_rF := by simp only [tX11_put, ← eu_24]; (try simp only [if_neg c_1, if_pos c_7])
      refine W.widen (k := 1) (n := 6) (Nat.le_of_ble_eq_true rfl) (Nat.le_of_ble_eq_true rfl) (vx_ret ?_)
      exact W.vret hx hb hr (fun t9 ht9 hW9 => ⟨⟨u_24, rfl, ⟨hok.symm, hf9⟩, ⟨by rw [ht9]; exact hP, va_K.moved hW9.alike hK, hD⟩⟩, hS.F ht9⟩) hS.2.2 dX11_put_27
    · skip
      have hbad : (1 : Int32) = tX11_put x0 x1 v_rF := by simp only [tX11_put]; (try simp only [if_neg c_1, if_neg c_7])
      exact vx_throw0 (mc := 1) (ms := 6) (A := A) (names := ["java/lang/RuntimeException", "java/lang/Exception"]) hx hb hst hown (by decide) (by decide) q_0 q_1 (vx_hat (L := vxw1) (fun w h => hts w (in_vx1 w h)) (fun w h => h) (vxh1 hTN)) vxg1 hTW.1 hTW.2 hS (hl.1.trans hml.symm) dX11_put_10 dX11_put_13 dX11_put_14 dX11_put_17 (fun x h => absurd h (hout x)) (Nat.le_of_ble_eq_true rfl) (Nat.le_of_ble_eq_true rfl) (Nat.le_of_ble_eq_true rfl) (Nat.le_of_ble_eq_true rfl) hlocks (fun t9 hv9 hz9 hq9 => ⟨(), hbad.symm, ⟨rfl, hP.kept (fun k q hk => hq9 q.1 (hP k q hk).lt), va_K.moved hv9 hK, hD⟩, ⟨Nat.le_trans hS.1 hz9, fun q h1 h2 => (hq9 q (Nat.lt_of_lt_of_le h1 hS.1)).trans (hS.2.1 q h1 h2)⟩⟩) hS.2.2 (Nat.le_of_ble_eq_true rfl) (Nat.le_of_ble_eq_true rfl)
theorem hdX11_put : yX11_put.cls = RX11 ∧ yX11_put.cls ≠ "java/lang/invoke/MethodHandle" ∧ yX11_put.cls ≠ "java/lang/invoke/VarHandle" ∧ (parseMethodDescriptor yX11_put.desc).map (fun d => d.parameters.length) = some 2 := by decide +kernel
noncomputable def fX11_write (x0 : Int32) (x1 : Int64) (x2 : Int32) (v_bF : (Nat → Int32)) : (Nat → Int32) :=
  let r_3 := fX11_areBytes x0 x2
  if r_3 = 0 then (v_bF) else (let u_28 := fX6_setNumber x0 x1 x2 v_bF; u_28)
noncomputable def tX11_write (x0 : Int32) (x1 : Int64) (x2 : Int32) (v_bF : (Nat → Int32)) : Int32 :=
  let r_3 := fX11_areBytes x0 x2
  if r_3 = 0 then (1) else (let u_28 := fX6_setNumber x0 x1 x2 v_bF; 0)
abbrev wX11_write (cI cB : ClassId) (a_core a_wo a_sh a_co a_st a_de a_ed a_ins a_mc a_me a_ps a_by a_ks a_rg a_it : Nat) (v_wanted : Int32) (v_fault : Int32) (v_bF : (Nat → Int32)) : va_W := [(a_core, .inr (11, [.ref a_mc, .ref a_ins, .ref a_wo, .ref a_sh, .ref a_co, .ref a_st, .ref a_de, .ref a_ed, .ref a_it, .int v_wanted])), (a_mc, .inr (5, [.ref a_me, .ref a_ps, .ref a_rg, .int v_fault])), (a_me, .inr (6, [.ref a_by, .ref a_ks])), (a_by, .inl (cB, 8192, .inl v_bF))]
abbrev rmX11_write : Room := { frames := 6, cells := 1, slots := 6, locals := 81 }
abbrev qX11_write (D : va_G) (cI cB : ClassId) (a_core a_wo a_sh a_co a_st a_de a_ed a_ins a_mc a_me a_ps a_by a_ks a_rg a_it : Nat) (v_wanted : Int32) (v_fault : Int32) (v_bF : (Nat → Int32)) (x0 : Int32) (x1 : Int64) (x2 : Int32) : (Nat → Prop) → Array Value → State → Outcome → State → Prop := fun A9 => va_Qv (fun (u9 : (Nat → Int32)) => tX11_write x0 x1 x2 v_bF = 0 ∧ (u9 = fX11_write x0 x1 x2 v_bF)) (fun u9 t9 => atW D (TYS cI cB) A9 (wX11_write cI cB a_core a_wo a_sh a_co a_st a_de a_ed a_ins a_mc a_me a_ps a_by a_ks a_rg a_it v_wanted v_fault u9) t9) A9
abbrev xX11_write (D : va_G) (cI cB : ClassId) (a_core a_wo a_sh a_co a_st a_de a_ed a_ins a_mc a_me a_ps a_by a_ks a_rg a_it : Nat) (v_wanted : Int32) (v_fault : Int32) (v_bF : (Nat → Int32)) (x0 : Int32) (x1 : Int64) (x2 : Int32) : (Nat → Prop) → String → State → State → Prop := fun A9 => vx_X (S := Unit) (fun _ => tX11_write x0 x1 x2 v_bF = 1) (fun E9 _ t9 => E9 = "java/lang/IllegalArgumentException" ∧ atW D (TYS cI cB) A9 (wX11_write cI cB a_core a_wo a_sh a_co a_st a_de a_ed a_ins a_mc a_me a_ps a_by a_ks a_rg a_it v_wanted v_fault v_bF) t9) A9
set_option maxHeartbeats 4000000 in
set_option maxRecDepth 100000 in
theorem kX11_write (l : Launch) (D : va_G) (cI cB : ClassId) (aO aN : Nat) (a_core a_wo a_sh a_co a_st a_de a_ed a_ins a_mc a_me a_ps a_by a_ks a_rg a_it : Nat) (sz : Nat) (v_wanted : Int32) (v_fault : Int32) (v_bF : (Nat → Int32)) (x0 : Int32) (x1 : Int64) (x2 : Int32) (hst : l.stackTraces = false) : MetX aO aN l yX11_write (WK yX11_write cX11_write 5 none) rmX11_write D (TYS cI cB) (wX11_write cI cB a_core a_wo a_sh a_co a_st a_de a_ed a_ins a_mc a_me a_ps a_by a_ks a_rg a_it v_wanted v_fault v_bF) sz [.ref a_core, .int x0, .long x1, .int x2] (qX11_write D cI cB a_core a_wo a_sh a_co a_st a_de a_ed a_ins a_mc a_me a_ps a_by a_ks a_rg a_it v_wanted v_fault v_bF x0 x1 x2) (xX11_write D cI cB a_core a_wo a_sh a_co a_st a_de a_ed a_ins a_mc a_me a_ps a_by a_ks a_rg a_it v_wanted v_fault v_bF x0 x1 x2) := by
  refine met_stdX (by decide) rfl (Nat.le_of_ble_eq_true rfl) ?_
  intro p e s m below meth c A ls H hx hb hr hml hown hts hlocks hA hP hK hD hS hNW hZT hTW hTN hout hl
  have hl : lv_has ls 5 [(0, .ref a_core), (1, .int x0), (2, .long x1), (4, .int x2)] := hl
  have q_0 := hts _ (List.mem_cons_of_mem _ wd_557)
  have q_1 := hts _ (List.mem_cons_of_mem _ wd_607)
  have q_2 := hts _ (List.mem_cons_of_mem _ wd_608)
  have n_0 := hNW.f (A := ([.ref a_core, .int x0, .long x1, .int x2] : List Value).toArray) ("MainframeCore", 105, "MainframeCore$Machine", "memory", "LMainframeCore$Memory;", "MainframeCore") (by decide +kernel)
  refine lv_iload_n hx hb dX11_write_0 rfl (lv_at hl 1 rfl) ?_
  refine lv_iload hx hb dX11_write_1 (lv_at hl 3 rfl) ?_
  have hPc : va_P D vwCl (wX11_areBytes cI cB  ) H := hP.sub [] rfl
  have hDc : va_D A (wX11_areBytes cI cB  ) := hD.sub [] (by decide) rfl
  have hFc := va_free (wc := (wX11_areBytes cI cB  )) hD hS hA [] rfl
  refine va_calli (va_runS (As := [.int x0, .int x2]) (rest := []) ⟨hx, hb, hml, hown, hts⟩ (kX11_areBytes l D cI cB  H.size  x0 x2) (va_cwS 2 hts (gd_S wd_609 wd_610 wd_611 wd_605) rfl rfl rfl hdX11_areBytes.2 ⟨Nat.le_of_ble_eq_true rfl, Nat.le_of_ble_eq_true rfl⟩) (preS_std hPc hK hDc hNW) rfl rfl hl.1 rfl (lv_room (Nat.le_of_ble_eq_true rfl)) dX11_write_3 ⟨Nat.zero_le _, Nat.zero_le _⟩) hS (fun q _ h => hFc q h) hFc (fun r_3 u_3 t9 H1 locs ht9 hvm9 hw9 hB9 hz9 hk9 hS => ?_)
  have er_3 : r_3 = fX11_areBytes x0 x2 := hw9
  have zr_3 : r_3 = 0 ∨ r_3 = 1 := by rw [er_3]; exact zX11_areBytes _ _
  obtain ⟨hP, hD⟩ := back_std (w1 := (wX11_areBytes cI cB  )) (w2 := (wX11_write cI cB a_core a_wo a_sh a_co a_st a_de a_ed a_ins a_mc a_me a_ps a_by a_ks a_rg a_it v_wanted v_fault v_bF)) (wr := [(a_core, .inr (11, [.ref a_mc, .ref a_ins, .ref a_wo, .ref a_sh, .ref a_co, .ref a_st, .ref a_de, .ref a_ed, .ref a_it, .int v_wanted])), (a_mc, .inr (5, [.ref a_me, .ref a_ps, .ref a_rg, .int v_fault])), (a_me, .inr (6, [.ref a_by, .ref a_ks])), (a_by, .inl (cB, 8192, .inl v_bF))]) hP hD [] [0, 1, 2, 3] [0, 1, 2, 3] rfl rfl (by decide) (by decide) hk9 hFc hB9 ht9 (by decide) rfl
  clear hB9 hk9 hz9 hvm9 ht9 hFc hPc hDc
  generalize H1 = H at hP hS ⊢
  refine lv_if_ne (tgt := 17) hx hb dX11_write_6 (by decide) (fun c_6 => ?_) (fun c_6 => ?_)
  · skip
    refine lv_aload_n hx hb dX11_write_17 rfl (lv_at hl 0 rfl) ?_
    refine va_get (D := D) (ci := 11) (v := .ref a_mc) (C := RX11) (T := TX11) (N := 10) hx hb hts in_X11 hown hK hP 0 rfl rfl 0 (by decide) q_0 (fun _ h9 => h9) rfl dX11_write_18 ?_
    refine va_getN (D := D) (ci := 5) (v := .ref a_me) (C := RX5) (T := TX5) (N := 4) hx hb hts in_X5 hown hK hP 1 rfl rfl 0 (by decide) n_0 (fun _ h9 => h9) rfl dX11_write_21 ?_
    refine lv_iload_n hx hb dX11_write_24 rfl (lv_at hl 1 rfl) ?_
    refine lv_lload_n hx hb dX11_write_25 rfl (lv_at hl 2 rfl) ?_
    refine lv_iload hx hb dX11_write_26 (lv_at hl 3 rfl) ?_
    have hPc : va_P D vwCl (wX6_setNumber cI cB a_me a_by a_ks v_bF) H := hP.sub [2, 3] rfl
    have hDc : va_D A (wX6_setNumber cI cB a_me a_by a_ks v_bF) := hD.sub [2, 3] (by decide) rfl
    have hFc := va_free (wc := (wX6_setNumber cI cB a_me a_by a_ks v_bF)) hD hS hA [2, 3] rfl
    refine va_callv (va_runV (As := [.int x0, .long x1, .int x2]) (rest := []) ⟨hx, hb, hml, hown, hts⟩ (kX6_setNumber l D cI cB a_me a_by a_ks H.size v_bF x0 x1 x2) (cwV 3 hts (gd_V wd_612 wd_542 wd_543 wd_78 wd_378) rfl rfl rfl hdX6_setNumber ⟨Nat.le_of_ble_eq_true rfl, Nat.le_of_ble_eq_true rfl⟩) (preV_std (ci := 6) (q0 := 0) hPc hK hDc hNW rfl rfl) rfl rfl hl.1 rfl (lv_room (Nat.le_of_ble_eq_true rfl)) dX11_write_28 ⟨Nat.zero_le _, Nat.zero_le _⟩) hS (fun q _ h => hFc q h) hFc (fun u_28 t9 H1 locs ht9 hvm9 hw9 hB9 hz9 hk9 hS => ?_)
    have eu_28 : u_28 = fX6_setNumber x0 x1 x2 v_bF := hw9
    obtain ⟨hP, hD⟩ := back_std (w1 := (wX6_setNumber cI cB a_me a_by a_ks u_28)) (w2 := (wX11_write cI cB a_core a_wo a_sh a_co a_st a_de a_ed a_ins a_mc a_me a_ps a_by a_ks a_rg a_it v_wanted v_fault u_28)) (wr := [(a_core, .inr (11, [.ref a_mc, .ref a_ins, .ref a_wo, .ref a_sh, .ref a_co, .ref a_st, .ref a_de, .ref a_ed, .ref a_it, .int v_wanted])), (a_mc, .inr (5, [.ref a_me, .ref a_ps, .ref a_rg, .int v_fault]))]) hP hD [2, 3] [0, 1] [0, 1, 2, 3] rfl rfl (by decide) (by decide) hk9 hFc hB9 ht9 (by decide) rfl
    clear hB9 hk9 hz9 hvm9 ht9 hFc hPc hDc
    generalize H1 = H at hP hS ⊢
    have hf9 : u_28 = fX11_write x0 x1 x2 v_bF := by simp only [fX11_write, ← er_3, ← eu_28]; (try simp only [if_neg c_6])
    have hok : (0 : Int32) = tX11_write x0 x1 x2 v_bF := by simp only [tX11_write, ← er_3, ← eu_28]; (try simp only [if_neg c_6])
    refine W.widen (k := 1) (n := 6) (Nat.le_of_ble_eq_true rfl) (Nat.le_of_ble_eq_true rfl) (vx_ret ?_)
    exact W.vret hx hb hr (fun t9 ht9 hW9 => ⟨⟨u_28, rfl, ⟨hok.symm, hf9⟩, ⟨by rw [ht9]; exact hP, va_K.moved hW9.alike hK, hD⟩⟩, hS.F ht9⟩) hS.2.2 dX11_write_31
  · skip
    have hbad : (1 : Int32) = tX11_write x0 x1 x2 v_bF := by simp only [tX11_write, ← er_3]; (try simp only [if_pos c_6])
    exact vx_throw0 (mc := 1) (ms := 6) (A := A) (names := ["java/lang/RuntimeException", "java/lang/Exception"]) hx hb hst hown (by decide) (by decide) q_1 q_2 (vx_hat (L := vxw0) (fun w h => hts w (in_vx0 w h)) (fun w h => h) (vxh0 hTN)) vxg0 hTW.1 hTW.2 hS (hl.1.trans hml.symm) dX11_write_9 dX11_write_12 dX11_write_13 dX11_write_16 (fun x h => absurd h (hout x)) (Nat.le_of_ble_eq_true rfl) (Nat.le_of_ble_eq_true rfl) (Nat.le_of_ble_eq_true rfl) (Nat.le_of_ble_eq_true rfl) hlocks (fun t9 hv9 hz9 hq9 => ⟨(), hbad.symm, ⟨rfl, hP.kept (fun k q hk => hq9 q.1 (hP k q hk).lt), va_K.moved hv9 hK, hD⟩, ⟨Nat.le_trans hS.1 hz9, fun q h1 h2 => (hq9 q (Nat.lt_of_lt_of_le h1 hS.1)).trans (hS.2.1 q h1 h2)⟩⟩) hS.2.2 (Nat.le_of_ble_eq_true rfl) (Nat.le_of_ble_eq_true rfl)
theorem hdX11_write : yX11_write.cls = RX11 ∧ yX11_write.cls ≠ "java/lang/invoke/MethodHandle" ∧ yX11_write.cls ≠ "java/lang/invoke/VarHandle" ∧ (parseMethodDescriptor yX11_write.desc).map (fun d => d.parameters.length) = some 3 := by decide +kernel
noncomputable def fX11_read (x0 : Int32) (x1 : Int32) (v_bF : (Nat → Int32)) : Int64 :=
  let r_2 := fX11_areBytes x0 x1
  if r_2 = 0 then (0) else (let r_25 := fX6_number x0 x1 v_bF; r_25)
noncomputable def tX11_read (x0 : Int32) (x1 : Int32) (v_bF : (Nat → Int32)) : Int32 :=
  let r_2 := fX11_areBytes x0 x1
  if r_2 = 0 then (1) else (let r_25 := fX6_number x0 x1 v_bF; 0)
abbrev wX11_read (cI cB : ClassId) (a_core a_wo a_sh a_co a_st a_de a_ed a_ins a_mc a_me a_ps a_by a_ks a_rg a_it : Nat) (v_wanted : Int32) (v_fault : Int32) (v_bF : (Nat → Int32)) : va_W := [(a_core, .inr (11, [.ref a_mc, .ref a_ins, .ref a_wo, .ref a_sh, .ref a_co, .ref a_st, .ref a_de, .ref a_ed, .ref a_it, .int v_wanted])), (a_mc, .inr (5, [.ref a_me, .ref a_ps, .ref a_rg, .int v_fault])), (a_me, .inr (6, [.ref a_by, .ref a_ks])), (a_by, .inl (cB, 8192, .inl v_bF))]
abbrev rmX11_read : Room := { frames := 6, cells := 1, slots := 6, locals := 81 }
abbrev qX11_read (D : va_G) (cI cB : ClassId) (a_core a_wo a_sh a_co a_st a_de a_ed a_ins a_mc a_me a_ps a_by a_ks a_rg a_it : Nat) (v_wanted : Int32) (v_fault : Int32) (v_bF : (Nat → Int32)) (x0 : Int32) (x1 : Int32) : (Nat → Prop) → Array Value → State → Outcome → State → Prop := fun A9 => va_Ql (fun (r9 : Int64) (u9 : Unit) => tX11_read x0 x1 v_bF = 0 ∧ (r9 = fX11_read x0 x1 v_bF)) (fun u9 t9 => atW D (TYS cI cB) A9 (wX11_read cI cB a_core a_wo a_sh a_co a_st a_de a_ed a_ins a_mc a_me a_ps a_by a_ks a_rg a_it v_wanted v_fault v_bF) t9) A9
abbrev xX11_read (D : va_G) (cI cB : ClassId) (a_core a_wo a_sh a_co a_st a_de a_ed a_ins a_mc a_me a_ps a_by a_ks a_rg a_it : Nat) (v_wanted : Int32) (v_fault : Int32) (v_bF : (Nat → Int32)) (x0 : Int32) (x1 : Int32) : (Nat → Prop) → String → State → State → Prop := fun A9 => vx_X (S := Unit) (fun _ => tX11_read x0 x1 v_bF = 1) (fun E9 _ t9 => E9 = "java/lang/IllegalArgumentException" ∧ atW D (TYS cI cB) A9 (wX11_read cI cB a_core a_wo a_sh a_co a_st a_de a_ed a_ins a_mc a_me a_ps a_by a_ks a_rg a_it v_wanted v_fault v_bF) t9) A9
set_option maxHeartbeats 4000000 in
set_option maxRecDepth 100000 in
theorem kX11_read (l : Launch) (D : va_G) (cI cB : ClassId) (aO aN : Nat) (a_core a_wo a_sh a_co a_st a_de a_ed a_ins a_mc a_me a_ps a_by a_ks a_rg a_it : Nat) (sz : Nat) (v_wanted : Int32) (v_fault : Int32) (v_bF : (Nat → Int32)) (x0 : Int32) (x1 : Int32) (hst : l.stackTraces = false) : MetX aO aN l yX11_read (WK yX11_read cX11_read 3 (some .long)) rmX11_read D (TYS cI cB) (wX11_read cI cB a_core a_wo a_sh a_co a_st a_de a_ed a_ins a_mc a_me a_ps a_by a_ks a_rg a_it v_wanted v_fault v_bF) sz [.ref a_core, .int x0, .int x1] (qX11_read D cI cB a_core a_wo a_sh a_co a_st a_de a_ed a_ins a_mc a_me a_ps a_by a_ks a_rg a_it v_wanted v_fault v_bF x0 x1) (xX11_read D cI cB a_core a_wo a_sh a_co a_st a_de a_ed a_ins a_mc a_me a_ps a_by a_ks a_rg a_it v_wanted v_fault v_bF x0 x1) := by
  refine met_stdX (by decide) rfl (Nat.le_of_ble_eq_true rfl) ?_
  intro p e s m below meth c A ls H hx hb hr hml hown hts hlocks hA hP hK hD hS hNW hZT hTW hTN hout hl
  have hl : lv_has ls 3 [(0, .ref a_core), (1, .int x0), (2, .int x1)] := hl
  have q_0 := hts _ (List.mem_cons_of_mem _ wd_557)
  have q_1 := hts _ (List.mem_cons_of_mem _ wd_607)
  have q_2 := hts _ (List.mem_cons_of_mem _ wd_608)
  have n_0 := hNW.f (A := ([.ref a_core, .int x0, .int x1] : List Value).toArray) ("MainframeCore", 105, "MainframeCore$Machine", "memory", "LMainframeCore$Memory;", "MainframeCore") (by decide +kernel)
  refine lv_iload_n hx hb dX11_read_0 rfl (lv_at hl 1 rfl) ?_
  refine lv_iload_n hx hb dX11_read_1 rfl (lv_at hl 2 rfl) ?_
  have hPc : va_P D vwCl (wX11_areBytes cI cB  ) H := hP.sub [] rfl
  have hDc : va_D A (wX11_areBytes cI cB  ) := hD.sub [] (by decide) rfl
  have hFc := va_free (wc := (wX11_areBytes cI cB  )) hD hS hA [] rfl
  refine va_calli (va_runS (As := [.int x0, .int x1]) (rest := []) ⟨hx, hb, hml, hown, hts⟩ (kX11_areBytes l D cI cB  H.size  x0 x1) (va_cwS 2 hts (gd_S wd_609 wd_610 wd_611 wd_605) rfl rfl rfl hdX11_areBytes.2 ⟨Nat.le_of_ble_eq_true rfl, Nat.le_of_ble_eq_true rfl⟩) (preS_std hPc hK hDc hNW) rfl rfl hl.1 rfl (lv_room (Nat.le_of_ble_eq_true rfl)) dX11_read_2 ⟨Nat.zero_le _, Nat.zero_le _⟩) hS (fun q _ h => hFc q h) hFc (fun r_2 u_2 t9 H1 locs ht9 hvm9 hw9 hB9 hz9 hk9 hS => ?_)
  have er_2 : r_2 = fX11_areBytes x0 x1 := hw9
  have zr_2 : r_2 = 0 ∨ r_2 = 1 := by rw [er_2]; exact zX11_areBytes _ _
  obtain ⟨hP, hD⟩ := back_std (w1 := (wX11_areBytes cI cB  )) (w2 := (wX11_read cI cB a_core a_wo a_sh a_co a_st a_de a_ed a_ins a_mc a_me a_ps a_by a_ks a_rg a_it v_wanted v_fault v_bF)) (wr := [(a_core, .inr (11, [.ref a_mc, .ref a_ins, .ref a_wo, .ref a_sh, .ref a_co, .ref a_st, .ref a_de, .ref a_ed, .ref a_it, .int v_wanted])), (a_mc, .inr (5, [.ref a_me, .ref a_ps, .ref a_rg, .int v_fault])), (a_me, .inr (6, [.ref a_by, .ref a_ks])), (a_by, .inl (cB, 8192, .inl v_bF))]) hP hD [] [0, 1, 2, 3] [0, 1, 2, 3] rfl rfl (by decide) (by decide) hk9 hFc hB9 ht9 (by decide) rfl
  clear hB9 hk9 hz9 hvm9 ht9 hFc hPc hDc
  generalize H1 = H at hP hS ⊢
  refine lv_if_ne (tgt := 16) hx hb dX11_read_5 (by decide) (fun c_5 => ?_) (fun c_5 => ?_)
  · skip
    refine lv_aload_n hx hb dX11_read_16 rfl (lv_at hl 0 rfl) ?_
    refine va_get (D := D) (ci := 11) (v := .ref a_mc) (C := RX11) (T := TX11) (N := 10) hx hb hts in_X11 hown hK hP 0 rfl rfl 0 (by decide) q_0 (fun _ h9 => h9) rfl dX11_read_17 ?_
    refine va_getN (D := D) (ci := 5) (v := .ref a_me) (C := RX5) (T := TX5) (N := 4) hx hb hts in_X5 hown hK hP 1 rfl rfl 0 (by decide) n_0 (fun _ h9 => h9) rfl dX11_read_20 ?_
    refine lv_iload_n hx hb dX11_read_23 rfl (lv_at hl 1 rfl) ?_
    refine lv_iload_n hx hb dX11_read_24 rfl (lv_at hl 2 rfl) ?_
    have hPc : va_P D vwCl (wX6_number cI cB a_me a_by a_ks v_bF) H := hP.sub [2, 3] rfl
    have hDc : va_D A (wX6_number cI cB a_me a_by a_ks v_bF) := hD.sub [2, 3] (by decide) rfl
    have hFc := va_free (wc := (wX6_number cI cB a_me a_by a_ks v_bF)) hD hS hA [2, 3] rfl
    refine va_calll (va_runV (As := [.int x0, .int x1]) (rest := []) ⟨hx, hb, hml, hown, hts⟩ (kX6_number l D cI cB a_me a_by a_ks H.size v_bF x0 x1) (cwV 2 hts (gd_V wd_614 wd_120 wd_121 wd_78 wd_115) rfl rfl rfl hdX6_number ⟨Nat.le_of_ble_eq_true rfl, Nat.le_of_ble_eq_true rfl⟩) (preV_std (ci := 6) (q0 := 0) hPc hK hDc hNW rfl rfl) rfl rfl hl.1 rfl (lv_room (Nat.le_of_ble_eq_true rfl)) dX11_read_25 ⟨Nat.zero_le _, Nat.zero_le _⟩) hS (fun q _ h => hFc q h) hFc (fun r_25 u_25 t9 H1 locs ht9 hvm9 hw9 hB9 hz9 hk9 hS => ?_)
    have er_25 : r_25 = fX6_number x0 x1 v_bF := hw9
    obtain ⟨hP, hD⟩ := back_std (w1 := (wX6_number cI cB a_me a_by a_ks v_bF)) (w2 := (wX11_read cI cB a_core a_wo a_sh a_co a_st a_de a_ed a_ins a_mc a_me a_ps a_by a_ks a_rg a_it v_wanted v_fault v_bF)) (wr := [(a_core, .inr (11, [.ref a_mc, .ref a_ins, .ref a_wo, .ref a_sh, .ref a_co, .ref a_st, .ref a_de, .ref a_ed, .ref a_it, .int v_wanted])), (a_mc, .inr (5, [.ref a_me, .ref a_ps, .ref a_rg, .int v_fault]))]) hP hD [2, 3] [0, 1] [0, 1, 2, 3] rfl rfl (by decide) (by decide) hk9 hFc hB9 ht9 (by decide) rfl
    clear hB9 hk9 hz9 hvm9 ht9 hFc hPc hDc
    generalize H1 = H at hP hS ⊢
    have hf9 : r_25 = fX11_read x0 x1 v_bF := by simp only [fX11_read, ← er_2, ← er_25]; (try simp only [if_neg c_5])
    have hok : (0 : Int32) = tX11_read x0 x1 v_bF := by simp only [tX11_read, ← er_2, ← er_25]; (try simp only [if_neg c_5])
    refine W.widen (k := 1) (n := 6) (Nat.le_of_ble_eq_true rfl) (Nat.le_of_ble_eq_true rfl) (vx_ret ?_)
    exact W.lret hx hb hr (fun t9 ht9 hW9 => ⟨⟨r_25, (), rfl, ⟨hok.symm, hf9⟩, ⟨by rw [ht9]; exact hP, va_K.moved hW9.alike hK, hD⟩⟩, hS.F ht9⟩) hS.2.2 dX11_read_28
  · skip
    have hbad : (1 : Int32) = tX11_read x0 x1 v_bF := by simp only [tX11_read, ← er_2]; (try simp only [if_pos c_5])
    exact vx_throw0 (mc := 1) (ms := 6) (A := A) (names := ["java/lang/RuntimeException", "java/lang/Exception"]) hx hb hst hown (by decide) (by decide) q_1 q_2 (vx_hat (L := vxw0) (fun w h => hts w (in_vx0 w h)) (fun w h => h) (vxh0 hTN)) vxg0 hTW.1 hTW.2 hS (hl.1.trans hml.symm) dX11_read_8 dX11_read_11 dX11_read_12 dX11_read_15 (fun x h => absurd h (hout x)) (Nat.le_of_ble_eq_true rfl) (Nat.le_of_ble_eq_true rfl) (Nat.le_of_ble_eq_true rfl) (Nat.le_of_ble_eq_true rfl) hlocks (fun t9 hv9 hz9 hq9 => ⟨(), hbad.symm, ⟨rfl, hP.kept (fun k q hk => hq9 q.1 (hP k q hk).lt), va_K.moved hv9 hK, hD⟩, ⟨Nat.le_trans hS.1 hz9, fun q h1 h2 => (hq9 q (Nat.lt_of_lt_of_le h1 hS.1)).trans (hS.2.1 q h1 h2)⟩⟩) hS.2.2 (Nat.le_of_ble_eq_true rfl) (Nat.le_of_ble_eq_true rfl)
theorem hdX11_read : yX11_read.cls = RX11 ∧ yX11_read.cls ≠ "java/lang/invoke/MethodHandle" ∧ yX11_read.cls ≠ "java/lang/invoke/VarHandle" ∧ (parseMethodDescriptor yX11_read.desc).map (fun d => d.parameters.length) = some 2 := by decide +kernel
noncomputable def fX11_key (x0 : Int32) (x1 : Int32) (v_kF : (Nat → Int32)) : (Int32 × (Nat → Int32)) :=
  if x0 < 0 then ((0, v_kF)) else (if 3 < x0 then ((0, v_kF)) else (if x1 < 0 then ((0, v_kF)) else (if x1 ≤ 31 then (let r_35 := fX6_blockKey x0 v_kF; let u_48 := fX6_setBlockKey x0 x1 v_kF; (r_35, u_48)) else ((0, v_kF)))))
noncomputable def tX11_key (x0 : Int32) (x1 : Int32) (v_kF : (Nat → Int32)) : Int32 :=
  if x0 < 0 then (1) else (if 3 < x0 then (1) else (if x1 < 0 then (1) else (if x1 ≤ 31 then (let r_35 := fX6_blockKey x0 v_kF; let u_48 := fX6_setBlockKey x0 x1 v_kF; 0) else (1))))
abbrev wX11_key (cI cB : ClassId) (a_core a_wo a_sh a_co a_st a_de a_ed a_ins a_mc a_me a_ps a_by a_ks a_rg a_it : Nat) (v_wanted : Int32) (v_fault : Int32) (v_kF : (Nat → Int32)) : va_W := [(a_core, .inr (11, [.ref a_mc, .ref a_ins, .ref a_wo, .ref a_sh, .ref a_co, .ref a_st, .ref a_de, .ref a_ed, .ref a_it, .int v_wanted])), (a_mc, .inr (5, [.ref a_me, .ref a_ps, .ref a_rg, .int v_fault])), (a_me, .inr (6, [.ref a_by, .ref a_ks])), (a_ks, .inl (cI, 4, .inl v_kF))]
abbrev rmX11_key : Room := { frames := 6, cells := 1, slots := 6, locals := 81 }
abbrev qX11_key (D : va_G) (cI cB : ClassId) (a_core a_wo a_sh a_co a_st a_de a_ed a_ins a_mc a_me a_ps a_by a_ks a_rg a_it : Nat) (v_wanted : Int32) (v_fault : Int32) (v_kF : (Nat → Int32)) (x0 : Int32) (x1 : Int32) : (Nat → Prop) → Array Value → State → Outcome → State → Prop := fun A9 => va_Qi (fun (r9 : Int32) (u9 : (Nat → Int32)) => tX11_key x0 x1 v_kF = 0 ∧ (r9 = (fX11_key x0 x1 v_kF).1 ∧ u9 = (fX11_key x0 x1 v_kF).2)) (fun u9 t9 => atW D (TYS cI cB) A9 (wX11_key cI cB a_core a_wo a_sh a_co a_st a_de a_ed a_ins a_mc a_me a_ps a_by a_ks a_rg a_it v_wanted v_fault u9) t9) A9
abbrev xX11_key (D : va_G) (cI cB : ClassId) (a_core a_wo a_sh a_co a_st a_de a_ed a_ins a_mc a_me a_ps a_by a_ks a_rg a_it : Nat) (v_wanted : Int32) (v_fault : Int32) (v_kF : (Nat → Int32)) (x0 : Int32) (x1 : Int32) : (Nat → Prop) → String → State → State → Prop := fun A9 => vx_X (S := Unit) (fun _ => tX11_key x0 x1 v_kF = 1) (fun E9 _ t9 => E9 = "java/lang/IllegalArgumentException" ∧ atW D (TYS cI cB) A9 (wX11_key cI cB a_core a_wo a_sh a_co a_st a_de a_ed a_ins a_mc a_me a_ps a_by a_ks a_rg a_it v_wanted v_fault v_kF) t9) A9
set_option maxHeartbeats 4000000 in
set_option maxRecDepth 100000 in
theorem kX11_key (l : Launch) (D : va_G) (cI cB : ClassId) (aO aN : Nat) (a_core a_wo a_sh a_co a_st a_de a_ed a_ins a_mc a_me a_ps a_by a_ks a_rg a_it : Nat) (sz : Nat) (v_wanted : Int32) (v_fault : Int32) (v_kF : (Nat → Int32)) (x0 : Int32) (x1 : Int32) (hst : l.stackTraces = false) : MetX aO aN l yX11_key (WK yX11_key cX11_key 4 (some .int)) rmX11_key D (TYS cI cB) (wX11_key cI cB a_core a_wo a_sh a_co a_st a_de a_ed a_ins a_mc a_me a_ps a_by a_ks a_rg a_it v_wanted v_fault v_kF) sz [.ref a_core, .int x0, .int x1] (qX11_key D cI cB a_core a_wo a_sh a_co a_st a_de a_ed a_ins a_mc a_me a_ps a_by a_ks a_rg a_it v_wanted v_fault v_kF x0 x1) (xX11_key D cI cB a_core a_wo a_sh a_co a_st a_de a_ed a_ins a_mc a_me a_ps a_by a_ks a_rg a_it v_wanted v_fault v_kF x0 x1) := by
  refine met_stdX (by decide) rfl (Nat.le_of_ble_eq_true rfl) ?_
  intro p e s m below meth c A ls H hx hb hr hml hown hts hlocks hA hP hK hD hS hNW hZT hTW hTN hout hl
  have hl : lv_has ls 4 [(0, .ref a_core), (1, .int x0), (2, .int x1)] := hl
  have q_0 := hts _ (List.mem_cons_of_mem _ wd_607)
  have q_1 := hts _ (List.mem_cons_of_mem _ wd_608)
  have q_2 := hts _ (List.mem_cons_of_mem _ wd_557)
  have n_0 := hNW.f (A := ([.ref a_core, .int x0, .int x1] : List Value).toArray) ("MainframeCore", 105, "MainframeCore$Machine", "memory", "LMainframeCore$Memory;", "MainframeCore") (by decide +kernel)
  refine lv_iload_n hx hb dX11_key_0 rfl (lv_at hl 1 rfl) ?_
  refine lv_if_lt (tgt := 19) hx hb dX11_key_1 (by decide) (fun c_1 => ?_) (fun c_1 => ?_)
  · skip
    have hbad : (1 : Int32) = tX11_key x0 x1 v_kF := by simp only [tX11_key]; (try simp only [if_pos c_1])
    exact vx_throw0 (mc := 1) (ms := 6) (A := A) (names := ["java/lang/RuntimeException", "java/lang/Exception"]) hx hb hst hown (by decide) (by decide) q_0 q_1 (vx_hat (L := vxw0) (fun w h => hts w (in_vx0 w h)) (fun w h => h) (vxh0 hTN)) vxg0 hTW.1 hTW.2 hS (hl.1.trans hml.symm) dX11_key_19 dX11_key_22 dX11_key_23 dX11_key_26 (fun x h => absurd h (hout x)) (Nat.le_of_ble_eq_true rfl) (Nat.le_of_ble_eq_true rfl) (Nat.le_of_ble_eq_true rfl) (Nat.le_of_ble_eq_true rfl) hlocks (fun t9 hv9 hz9 hq9 => ⟨(), hbad.symm, ⟨rfl, hP.kept (fun k q hk => hq9 q.1 (hP k q hk).lt), va_K.moved hv9 hK, hD⟩, ⟨Nat.le_trans hS.1 hz9, fun q h1 h2 => (hq9 q (Nat.lt_of_lt_of_le h1 hS.1)).trans (hS.2.1 q h1 h2)⟩⟩) hS.2.2 (Nat.le_of_ble_eq_true rfl) (Nat.le_of_ble_eq_true rfl)
  · skip
    refine lv_iload_n hx hb dX11_key_4 rfl (lv_at hl 1 rfl) ?_
    refine lv_iconst (v := 3) hx hb dX11_key_5 (by decide) ?_
    refine lv_icmp_gt (tgt := 19) hx hb dX11_key_6 (by decide) (fun c_6 => ?_) (fun c_6 => ?_)
    · skip
      have hbad : (1 : Int32) = tX11_key x0 x1 v_kF := by simp only [tX11_key]; (try simp only [if_neg c_1, if_pos c_6])
      exact vx_throw0 (mc := 1) (ms := 6) (A := A) (names := ["java/lang/RuntimeException", "java/lang/Exception"]) hx hb hst hown (by decide) (by decide) q_0 q_1 (vx_hat (L := vxw0) (fun w h => hts w (in_vx0 w h)) (fun w h => h) (vxh0 hTN)) vxg0 hTW.1 hTW.2 hS (hl.1.trans hml.symm) dX11_key_19 dX11_key_22 dX11_key_23 dX11_key_26 (fun x h => absurd h (hout x)) (Nat.le_of_ble_eq_true rfl) (Nat.le_of_ble_eq_true rfl) (Nat.le_of_ble_eq_true rfl) (Nat.le_of_ble_eq_true rfl) hlocks (fun t9 hv9 hz9 hq9 => ⟨(), hbad.symm, ⟨rfl, hP.kept (fun k q hk => hq9 q.1 (hP k q hk).lt), va_K.moved hv9 hK, hD⟩, ⟨Nat.le_trans hS.1 hz9, fun q h1 h2 => (hq9 q (Nat.lt_of_lt_of_le h1 hS.1)).trans (hS.2.1 q h1 h2)⟩⟩) hS.2.2 (Nat.le_of_ble_eq_true rfl) (Nat.le_of_ble_eq_true rfl)
    · skip
      refine lv_iload_n hx hb dX11_key_9 rfl (lv_at hl 2 rfl) ?_
      refine lv_if_lt (tgt := 19) hx hb dX11_key_10 (by decide) (fun c_10 => ?_) (fun c_10 => ?_)
      · skip
        have hbad : (1 : Int32) = tX11_key x0 x1 v_kF := by simp only [tX11_key]; (try simp only [if_neg c_1, if_neg c_6, if_pos c_10])
        exact vx_throw0 (mc := 1) (ms := 6) (A := A) (names := ["java/lang/RuntimeException", "java/lang/Exception"]) hx hb hst hown (by decide) (by decide) q_0 q_1 (vx_hat (L := vxw0) (fun w h => hts w (in_vx0 w h)) (fun w h => h) (vxh0 hTN)) vxg0 hTW.1 hTW.2 hS (hl.1.trans hml.symm) dX11_key_19 dX11_key_22 dX11_key_23 dX11_key_26 (fun x h => absurd h (hout x)) (Nat.le_of_ble_eq_true rfl) (Nat.le_of_ble_eq_true rfl) (Nat.le_of_ble_eq_true rfl) (Nat.le_of_ble_eq_true rfl) hlocks (fun t9 hv9 hz9 hq9 => ⟨(), hbad.symm, ⟨rfl, hP.kept (fun k q hk => hq9 q.1 (hP k q hk).lt), va_K.moved hv9 hK, hD⟩, ⟨Nat.le_trans hS.1 hz9, fun q h1 h2 => (hq9 q (Nat.lt_of_lt_of_le h1 hS.1)).trans (hS.2.1 q h1 h2)⟩⟩) hS.2.2 (Nat.le_of_ble_eq_true rfl) (Nat.le_of_ble_eq_true rfl)
      · skip
        refine lv_iload_n hx hb dX11_key_13 rfl (lv_at hl 2 rfl) ?_
        refine lv_bipush (v := 31) hx hb dX11_key_14 (by decide) ?_
        refine lv_icmp_le (tgt := 27) hx hb dX11_key_16 (by decide) (fun c_16 => ?_) (fun c_16 => ?_)
        · skip
          refine lv_aload_n hx hb dX11_key_27 rfl (lv_at hl 0 rfl) ?_
          refine va_get (D := D) (ci := 11) (v := .ref a_mc) (C := RX11) (T := TX11) (N := 10) hx hb hts in_X11 hown hK hP 0 rfl rfl 0 (by decide) q_2 (fun _ h9 => h9) rfl dX11_key_28 ?_
          refine va_getN (D := D) (ci := 5) (v := .ref a_me) (C := RX5) (T := TX5) (N := 4) hx hb hts in_X5 hown hK hP 1 rfl rfl 0 (by decide) n_0 (fun _ h9 => h9) rfl dX11_key_31 ?_
          refine lv_iload_n hx hb dX11_key_34 rfl (lv_at hl 1 rfl) ?_
          have hPc : va_P D vwCl (wX6_blockKey cI cB a_me a_by a_ks v_kF) H := hP.sub [2, 3] rfl
          have hDc : va_D A (wX6_blockKey cI cB a_me a_by a_ks v_kF) := hD.sub [2, 3] (by decide) rfl
          have hFc := va_free (wc := (wX6_blockKey cI cB a_me a_by a_ks v_kF)) hD hS hA [2, 3] rfl
          refine va_calli (va_runV (As := [.int x0]) (rest := []) ⟨hx, hb, hml, hown, hts⟩ (kX6_blockKey l D cI cB a_me a_by a_ks H.size v_kF x0) (cwV 1 hts (gd_V wd_616 wd_85 wd_86 wd_78 wd_80) rfl rfl rfl hdX6_blockKey ⟨Nat.le_of_ble_eq_true rfl, Nat.le_of_ble_eq_true rfl⟩) (preV_std (ci := 6) (q0 := 0) hPc hK hDc hNW rfl rfl) rfl rfl hl.1 rfl (lv_room (Nat.le_of_ble_eq_true rfl)) dX11_key_35 ⟨Nat.zero_le _, Nat.zero_le _⟩) hS (fun q _ h => hFc q h) hFc (fun r_35 u_35 t9 H1 locs ht9 hvm9 hw9 hB9 hz9 hk9 hS => ?_)
          have er_35 : r_35 = fX6_blockKey x0 v_kF := hw9
          obtain ⟨hP, hD⟩ := back_std (w1 := (wX6_blockKey cI cB a_me a_by a_ks v_kF)) (w2 := (wX11_key cI cB a_core a_wo a_sh a_co a_st a_de a_ed a_ins a_mc a_me a_ps a_by a_ks a_rg a_it v_wanted v_fault v_kF)) (wr := [(a_core, .inr (11, [.ref a_mc, .ref a_ins, .ref a_wo, .ref a_sh, .ref a_co, .ref a_st, .ref a_de, .ref a_ed, .ref a_it, .int v_wanted])), (a_mc, .inr (5, [.ref a_me, .ref a_ps, .ref a_rg, .int v_fault]))]) hP hD [2, 3] [0, 1] [0, 1, 2, 3] rfl rfl (by decide) (by decide) hk9 hFc hB9 ht9 (by decide) rfl
          clear hB9 hk9 hz9 hvm9 ht9 hFc hPc hDc
          generalize H1 = H at hP hS ⊢
          refine lv_istore_n (lv' := [(3, .int r_35), (0, .ref a_core), (1, .int x0), (2, .int x1)]) hx hb dX11_key_38 rfl hl (by decide) rfl (fun ls hl => ?_)
          refine lv_aload_n hx hb dX11_key_39 rfl (lv_at hl 1 rfl) ?_
          refine va_get (D := D) (ci := 11) (v := .ref a_mc) (C := RX11) (T := TX11) (N := 10) hx hb hts in_X11 hown hK hP 0 rfl rfl 0 (by decide) q_2 (fun _ h9 => h9) rfl dX11_key_40 ?_
          refine va_getN (D := D) (ci := 5) (v := .ref a_me) (C := RX5) (T := TX5) (N := 4) hx hb hts in_X5 hown hK hP 1 rfl rfl 0 (by decide) n_0 (fun _ h9 => h9) rfl dX11_key_43 ?_
          refine lv_iload_n hx hb dX11_key_46 rfl (lv_at hl 2 rfl) ?_
          refine lv_iload_n hx hb dX11_key_47 rfl (lv_at hl 3 rfl) ?_
          have hPc : va_P D vwCl (wX6_setBlockKey cI cB a_me a_by a_ks v_kF) H := hP.sub [2, 3] rfl
          have hDc : va_D A (wX6_setBlockKey cI cB a_me a_by a_ks v_kF) := hD.sub [2, 3] (by decide) rfl
          have hFc := va_free (wc := (wX6_setBlockKey cI cB a_me a_by a_ks v_kF)) hD hS hA [2, 3] rfl
          refine va_callv (va_runV (As := [.int x0, .int x1]) (rest := []) ⟨hx, hb, hml, hown, hts⟩ (kX6_setBlockKey l D cI cB a_me a_by a_ks H.size v_kF x0 x1) (cwV 2 hts (gd_V wd_617 wd_76 wd_77 wd_78 wd_67) rfl rfl rfl hdX6_setBlockKey ⟨Nat.le_of_ble_eq_true rfl, Nat.le_of_ble_eq_true rfl⟩) (preV_std (ci := 6) (q0 := 0) hPc hK hDc hNW rfl rfl) rfl rfl hl.1 rfl (lv_room (Nat.le_of_ble_eq_true rfl)) dX11_key_48 ⟨Nat.zero_le _, Nat.zero_le _⟩) hS (fun q _ h => hFc q h) hFc (fun u_48 t9 H1 locs ht9 hvm9 hw9 hB9 hz9 hk9 hS => ?_)
          have eu_48 : u_48 = fX6_setBlockKey x0 x1 v_kF := hw9
          obtain ⟨hP, hD⟩ := back_std (w1 := (wX6_setBlockKey cI cB a_me a_by a_ks u_48)) (w2 := (wX11_key cI cB a_core a_wo a_sh a_co a_st a_de a_ed a_ins a_mc a_me a_ps a_by a_ks a_rg a_it v_wanted v_fault u_48)) (wr := [(a_core, .inr (11, [.ref a_mc, .ref a_ins, .ref a_wo, .ref a_sh, .ref a_co, .ref a_st, .ref a_de, .ref a_ed, .ref a_it, .int v_wanted])), (a_mc, .inr (5, [.ref a_me, .ref a_ps, .ref a_rg, .int v_fault]))]) hP hD [2, 3] [0, 1] [0, 1, 2, 3] rfl rfl (by decide) (by decide) hk9 hFc hB9 ht9 (by decide) rfl
          clear hB9 hk9 hz9 hvm9 ht9 hFc hPc hDc
          generalize H1 = H at hP hS ⊢
          refine lv_iload_n hx hb dX11_key_51 rfl (lv_at hl 0 rfl) ?_
          have hf9 : (r_35, u_48) = fX11_key x0 x1 v_kF := by simp only [fX11_key, ← er_35, ← eu_48]; (try simp only [if_neg c_1, if_neg c_6, if_neg c_10, if_pos c_16])
          have hok : (0 : Int32) = tX11_key x0 x1 v_kF := by simp only [tX11_key, ← er_35, ← eu_48]; (try simp only [if_neg c_1, if_neg c_6, if_neg c_10, if_pos c_16])
          refine W.widen (k := 1) (n := 6) (Nat.le_of_ble_eq_true rfl) (Nat.le_of_ble_eq_true rfl) (vx_ret ?_)
          exact W.iret hx hb hr (fun t9 ht9 hW9 => ⟨⟨r_35, u_48, rfl, ⟨hok.symm, ⟨by rw [← hf9], by rw [← hf9]⟩⟩, ⟨by rw [ht9]; exact hP, va_K.moved hW9.alike hK, hD⟩⟩, hS.F ht9⟩) hS.2.2 dX11_key_52
        · skip
          have hbad : (1 : Int32) = tX11_key x0 x1 v_kF := by simp only [tX11_key]; (try simp only [if_neg c_1, if_neg c_6, if_neg c_10, if_neg c_16])
          exact vx_throw0 (mc := 1) (ms := 6) (A := A) (names := ["java/lang/RuntimeException", "java/lang/Exception"]) hx hb hst hown (by decide) (by decide) q_0 q_1 (vx_hat (L := vxw0) (fun w h => hts w (in_vx0 w h)) (fun w h => h) (vxh0 hTN)) vxg0 hTW.1 hTW.2 hS (hl.1.trans hml.symm) dX11_key_19 dX11_key_22 dX11_key_23 dX11_key_26 (fun x h => absurd h (hout x)) (Nat.le_of_ble_eq_true rfl) (Nat.le_of_ble_eq_true rfl) (Nat.le_of_ble_eq_true rfl) (Nat.le_of_ble_eq_true rfl) hlocks (fun t9 hv9 hz9 hq9 => ⟨(), hbad.symm, ⟨rfl, hP.kept (fun k q hk => hq9 q.1 (hP k q hk).lt), va_K.moved hv9 hK, hD⟩, ⟨Nat.le_trans hS.1 hz9, fun q h1 h2 => (hq9 q (Nat.lt_of_lt_of_le h1 hS.1)).trans (hS.2.1 q h1 h2)⟩⟩) hS.2.2 (Nat.le_of_ble_eq_true rfl) (Nat.le_of_ble_eq_true rfl)
theorem hdX11_key : yX11_key.cls = RX11 ∧ yX11_key.cls ≠ "java/lang/invoke/MethodHandle" ∧ yX11_key.cls ≠ "java/lang/invoke/VarHandle" ∧ (parseMethodDescriptor yX11_key.desc).map (fun d => d.parameters.length) = some 2 := by decide +kernel
noncomputable def fX11_want (x0 : Int32) (v_wanted : Int32) : Int32 :=
  if x0 < 0 then (v_wanted) else (if x0 ≤ 255 then (let x_26 := (v_wanted ||| x0); x_26) else (v_wanted))
noncomputable def tX11_want (x0 : Int32) (v_wanted : Int32) : Int32 :=
  if x0 < 0 then (1) else (if x0 ≤ 255 then (let x_26 := (v_wanted ||| x0); 0) else (1))
abbrev wX11_want (cI cB : ClassId) (a_core a_wo a_sh a_co a_st a_de a_ed a_ins a_mc a_it : Nat) (v_wanted : Int32) : va_W := [(a_core, .inr (11, [.ref a_mc, .ref a_ins, .ref a_wo, .ref a_sh, .ref a_co, .ref a_st, .ref a_de, .ref a_ed, .ref a_it, .int v_wanted]))]
abbrev rmX11_want : Room := { frames := 6, cells := 1, slots := 6, locals := 81 }
abbrev qX11_want (D : va_G) (cI cB : ClassId) (a_core a_wo a_sh a_co a_st a_de a_ed a_ins a_mc a_it : Nat) (v_wanted : Int32) (x0 : Int32) : (Nat → Prop) → Array Value → State → Outcome → State → Prop := fun A9 => va_Qv (fun (u9 : Int32) => tX11_want x0 v_wanted = 0 ∧ (u9 = fX11_want x0 v_wanted)) (fun u9 t9 => atW D (TYS cI cB) A9 (wX11_want cI cB a_core a_wo a_sh a_co a_st a_de a_ed a_ins a_mc a_it u9) t9) A9
abbrev xX11_want (D : va_G) (cI cB : ClassId) (a_core a_wo a_sh a_co a_st a_de a_ed a_ins a_mc a_it : Nat) (v_wanted : Int32) (x0 : Int32) : (Nat → Prop) → String → State → State → Prop := fun A9 => vx_X (S := Unit) (fun _ => tX11_want x0 v_wanted = 1) (fun E9 _ t9 => E9 = "java/lang/IllegalArgumentException" ∧ atW D (TYS cI cB) A9 (wX11_want cI cB a_core a_wo a_sh a_co a_st a_de a_ed a_ins a_mc a_it v_wanted) t9) A9
set_option maxHeartbeats 4000000 in
set_option maxRecDepth 100000 in
theorem kX11_want (l : Launch) (D : va_G) (cI cB : ClassId) (aO aN : Nat) (a_core a_wo a_sh a_co a_st a_de a_ed a_ins a_mc a_it : Nat) (sz : Nat) (v_wanted : Int32) (x0 : Int32) (hst : l.stackTraces = false) : MetX aO aN l yX11_want (WK yX11_want cX11_want 2 none) rmX11_want D (TYS cI cB) (wX11_want cI cB a_core a_wo a_sh a_co a_st a_de a_ed a_ins a_mc a_it v_wanted) sz [.ref a_core, .int x0] (qX11_want D cI cB a_core a_wo a_sh a_co a_st a_de a_ed a_ins a_mc a_it v_wanted x0) (xX11_want D cI cB a_core a_wo a_sh a_co a_st a_de a_ed a_ins a_mc a_it v_wanted x0) := by
  refine met_stdX (by decide) rfl (Nat.le_of_ble_eq_true rfl) ?_
  intro p e s m below meth c A ls H hx hb hr hml hown hts hlocks hA hP hK hD hS hNW hZT hTW hTN hout hl
  have hl : lv_has ls 2 [(0, .ref a_core), (1, .int x0)] := hl
  have q_0 := hts _ (List.mem_cons_of_mem _ wd_607)
  have q_1 := hts _ (List.mem_cons_of_mem _ wd_608)
  have q_2 := hts _ (List.mem_cons_of_mem _ wd_619)
  refine lv_iload_n hx hb dX11_want_0 rfl (lv_at hl 1 rfl) ?_
  refine lv_if_lt (tgt := 11) hx hb dX11_want_1 (by decide) (fun c_1 => ?_) (fun c_1 => ?_)
  · skip
    have hbad : (1 : Int32) = tX11_want x0 v_wanted := by simp only [tX11_want]; (try simp only [if_pos c_1])
    exact vx_throw0 (mc := 1) (ms := 6) (A := A) (names := ["java/lang/RuntimeException", "java/lang/Exception"]) hx hb hst hown (by decide) (by decide) q_0 q_1 (vx_hat (L := vxw0) (fun w h => hts w (in_vx0 w h)) (fun w h => h) (vxh0 hTN)) vxg0 hTW.1 hTW.2 hS (hl.1.trans hml.symm) dX11_want_11 dX11_want_14 dX11_want_15 dX11_want_18 (fun x h => absurd h (hout x)) (Nat.le_of_ble_eq_true rfl) (Nat.le_of_ble_eq_true rfl) (Nat.le_of_ble_eq_true rfl) (Nat.le_of_ble_eq_true rfl) hlocks (fun t9 hv9 hz9 hq9 => ⟨(), hbad.symm, ⟨rfl, hP.kept (fun k q hk => hq9 q.1 (hP k q hk).lt), va_K.moved hv9 hK, hD⟩, ⟨Nat.le_trans hS.1 hz9, fun q h1 h2 => (hq9 q (Nat.lt_of_lt_of_le h1 hS.1)).trans (hS.2.1 q h1 h2)⟩⟩) hS.2.2 (Nat.le_of_ble_eq_true rfl) (Nat.le_of_ble_eq_true rfl)
  · skip
    refine lv_iload_n hx hb dX11_want_4 rfl (lv_at hl 1 rfl) ?_
    refine lv_sipush (v := 255) hx hb dX11_want_5 (by decide) ?_
    refine lv_icmp_le (tgt := 19) hx hb dX11_want_8 (by decide) (fun c_8 => ?_) (fun c_8 => ?_)
    · skip
      refine lv_aload_n hx hb dX11_want_19 rfl (lv_at hl 0 rfl) ?_
      refine lv_dup hx hb dX11_want_20 rfl ?_
      refine va_get (D := D) (ci := 11) (v := .int v_wanted) (C := RX11) (T := TX11) (N := 10) hx hb hts in_X11 hown hK hP 0 rfl rfl 9 (by decide) q_2 (fun _ h9 => h9) rfl dX11_want_21 ?_
      refine lv_iload_n hx hb dX11_want_24 rfl (lv_at hl 1 rfl) ?_
      refine lv_ior hx hb dX11_want_25 ?_
      refine lv_topi (fun x_26 ex_26 => ?_)
      refine va_put (D := D) (ci := 11) (v := .int x_26) (ty := .int) (C := RX11) (T := TX11) (N := 10) hx hb hts in_X11 tyX11 tyX11_ok nmX11 hown hK hP hD hS 0 rfl rfl 9 (by decide) q_2 (fun _ h9 => h9) rfl (by decide +kernel) rfl rfl (Nat.le_of_ble_eq_true rfl) dX11_want_26 (fun H locs hP hD hS => ?_)
      have hP : va_P D vwCl (wX11_want cI cB a_core a_wo a_sh a_co a_st a_de a_ed a_ins a_mc a_it x_26) H := hP
      have hD : va_D A (wX11_want cI cB a_core a_wo a_sh a_co a_st a_de a_ed a_ins a_mc a_it x_26) := hD
      have hf9 : x_26 = fX11_want x0 v_wanted := by subst ex_26; simp only [fX11_want]; (try simp only [if_neg c_1, if_pos c_8])
      have hok : (0 : Int32) = tX11_want x0 v_wanted := by subst ex_26; simp only [tX11_want]; (try simp only [if_neg c_1, if_pos c_8])
      refine W.widen (k := 1) (n := 6) (Nat.le_of_ble_eq_true rfl) (Nat.le_of_ble_eq_true rfl) (vx_ret ?_)
      exact W.vret hx hb hr (fun t9 ht9 hW9 => ⟨⟨x_26, rfl, ⟨hok.symm, hf9⟩, ⟨by rw [ht9]; exact hP, va_K.moved hW9.alike hK, hD⟩⟩, hS.F ht9⟩) hS.2.2 dX11_want_29
    · skip
      have hbad : (1 : Int32) = tX11_want x0 v_wanted := by simp only [tX11_want]; (try simp only [if_neg c_1, if_neg c_8])
      exact vx_throw0 (mc := 1) (ms := 6) (A := A) (names := ["java/lang/RuntimeException", "java/lang/Exception"]) hx hb hst hown (by decide) (by decide) q_0 q_1 (vx_hat (L := vxw0) (fun w h => hts w (in_vx0 w h)) (fun w h => h) (vxh0 hTN)) vxg0 hTW.1 hTW.2 hS (hl.1.trans hml.symm) dX11_want_11 dX11_want_14 dX11_want_15 dX11_want_18 (fun x h => absurd h (hout x)) (Nat.le_of_ble_eq_true rfl) (Nat.le_of_ble_eq_true rfl) (Nat.le_of_ble_eq_true rfl) (Nat.le_of_ble_eq_true rfl) hlocks (fun t9 hv9 hz9 hq9 => ⟨(), hbad.symm, ⟨rfl, hP.kept (fun k q hk => hq9 q.1 (hP k q hk).lt), va_K.moved hv9 hK, hD⟩, ⟨Nat.le_trans hS.1 hz9, fun q h1 h2 => (hq9 q (Nat.lt_of_lt_of_le h1 hS.1)).trans (hS.2.1 q h1 h2)⟩⟩) hS.2.2 (Nat.le_of_ble_eq_true rfl) (Nat.le_of_ble_eq_true rfl)
theorem hdX11_want : yX11_want.cls = RX11 ∧ yX11_want.cls ≠ "java/lang/invoke/MethodHandle" ∧ yX11_want.cls ≠ "java/lang/invoke/VarHandle" ∧ (parseMethodDescriptor yX11_want.desc).map (fun d => d.parameters.length) = some 1 := by decide +kernel
noncomputable def fX11_tick (x0 : Int32) (v_wanted : Int32) (v_bF : (Nat → Int32)) : (Int32 × (Int32 × (Nat → Int32))) :=
  if x0 < 0 then ((0, (v_wanted, v_bF))) else (if x0 ≤ 1000000 then (let r_27 := fX6_word 80 v_bF; let x_34 := (r_27 - x0); let u_47 := fX6_setNumber 80 ((x_34 : Int32).toInt64) 4 v_bF; if r_27 < 0 then ((x_34, (v_wanted, u_47))) else (if 0 ≤ x_34 then ((x_34, (v_wanted, u_47))) else (let x_67 := (v_wanted ||| 128); (x_34, (x_67, u_47))))) else ((0, (v_wanted, v_bF))))
noncomputable def tX11_tick (x0 : Int32) (v_wanted : Int32) (v_bF : (Nat → Int32)) : Int32 :=
  if x0 < 0 then (1) else (if x0 ≤ 1000000 then (let r_27 := fX6_word 80 v_bF; let x_34 := (r_27 - x0); let u_47 := fX6_setNumber 80 ((x_34 : Int32).toInt64) 4 v_bF; if r_27 < 0 then (0) else (if 0 ≤ x_34 then (0) else (let x_67 := (v_wanted ||| 128); 0))) else (1))
abbrev wX11_tick (cI cB : ClassId) (a_core a_wo a_sh a_co a_st a_de a_ed a_ins a_mc a_me a_ps a_by a_ks a_rg a_it : Nat) (v_wanted : Int32) (v_fault : Int32) (v_bF : (Nat → Int32)) : va_W := [(a_core, .inr (11, [.ref a_mc, .ref a_ins, .ref a_wo, .ref a_sh, .ref a_co, .ref a_st, .ref a_de, .ref a_ed, .ref a_it, .int v_wanted])), (a_mc, .inr (5, [.ref a_me, .ref a_ps, .ref a_rg, .int v_fault])), (a_me, .inr (6, [.ref a_by, .ref a_ks])), (a_by, .inl (cB, 8192, .inl v_bF))]
abbrev rmX11_tick : Room := { frames := 6, cells := 1, slots := 6, locals := 81 }
abbrev qX11_tick (D : va_G) (cI cB : ClassId) (a_core a_wo a_sh a_co a_st a_de a_ed a_ins a_mc a_me a_ps a_by a_ks a_rg a_it : Nat) (v_wanted : Int32) (v_fault : Int32) (v_bF : (Nat → Int32)) (x0 : Int32) : (Nat → Prop) → Array Value → State → Outcome → State → Prop := fun A9 => va_Qi (fun (r9 : Int32) (u9 : (Int32 × (Nat → Int32))) => tX11_tick x0 v_wanted v_bF = 0 ∧ (r9 = (fX11_tick x0 v_wanted v_bF).1 ∧ u9 = (fX11_tick x0 v_wanted v_bF).2)) (fun u9 t9 => atW D (TYS cI cB) A9 (wX11_tick cI cB a_core a_wo a_sh a_co a_st a_de a_ed a_ins a_mc a_me a_ps a_by a_ks a_rg a_it u9.1 v_fault u9.2) t9) A9
abbrev xX11_tick (D : va_G) (cI cB : ClassId) (a_core a_wo a_sh a_co a_st a_de a_ed a_ins a_mc a_me a_ps a_by a_ks a_rg a_it : Nat) (v_wanted : Int32) (v_fault : Int32) (v_bF : (Nat → Int32)) (x0 : Int32) : (Nat → Prop) → String → State → State → Prop := fun A9 => vx_X (S := Unit) (fun _ => tX11_tick x0 v_wanted v_bF = 1) (fun E9 _ t9 => E9 = "java/lang/IllegalArgumentException" ∧ atW D (TYS cI cB) A9 (wX11_tick cI cB a_core a_wo a_sh a_co a_st a_de a_ed a_ins a_mc a_me a_ps a_by a_ks a_rg a_it v_wanted v_fault v_bF) t9) A9
set_option maxHeartbeats 4000000 in
set_option maxRecDepth 100000 in
theorem kX11_tick (l : Launch) (D : va_G) (cI cB : ClassId) (aO aN : Nat) (a_core a_wo a_sh a_co a_st a_de a_ed a_ins a_mc a_me a_ps a_by a_ks a_rg a_it : Nat) (sz : Nat) (v_wanted : Int32) (v_fault : Int32) (v_bF : (Nat → Int32)) (x0 : Int32) (hst : l.stackTraces = false) : MetX aO aN l yX11_tick (WK yX11_tick cX11_tick 4 (some .int)) rmX11_tick D (TYS cI cB) (wX11_tick cI cB a_core a_wo a_sh a_co a_st a_de a_ed a_ins a_mc a_me a_ps a_by a_ks a_rg a_it v_wanted v_fault v_bF) sz [.ref a_core, .int x0] (qX11_tick D cI cB a_core a_wo a_sh a_co a_st a_de a_ed a_ins a_mc a_me a_ps a_by a_ks a_rg a_it v_wanted v_fault v_bF x0) (xX11_tick D cI cB a_core a_wo a_sh a_co a_st a_de a_ed a_ins a_mc a_me a_ps a_by a_ks a_rg a_it v_wanted v_fault v_bF x0) := by
  refine met_stdX (by decide) rfl (Nat.le_of_ble_eq_true rfl) ?_
  intro p e s m below meth c A ls H hx hb hr hml hown hts hlocks hA hP hK hD hS hNW hZT hTW hTN hout hl
  have hl : lv_has ls 4 [(0, .ref a_core), (1, .int x0)] := hl
  have q_0 := hts _ (List.mem_cons_of_mem _ wd_607)
  have q_1 := hts _ (List.mem_cons_of_mem _ wd_608)
  have q_2 := hts _ (List.mem_cons_of_mem _ wd_620)
  have q_3 := hts _ (List.mem_cons_of_mem _ wd_557)
  have q_4 := hts _ (List.mem_cons_of_mem _ wd_619)
  have n_0 := hNW.f (A := ([.ref a_core, .int x0] : List Value).toArray) ("MainframeCore", 105, "MainframeCore$Machine", "memory", "LMainframeCore$Memory;", "MainframeCore") (by decide +kernel)
  refine lv_iload_n hx hb dX11_tick_0 rfl (lv_at hl 1 rfl) ?_
  refine lv_if_lt (tgt := 10) hx hb dX11_tick_1 (by decide) (fun c_1 => ?_) (fun c_1 => ?_)
  · skip
    have hbad : (1 : Int32) = tX11_tick x0 v_wanted v_bF := by simp only [tX11_tick]; (try simp only [if_pos c_1])
    exact vx_throw0 (mc := 1) (ms := 6) (A := A) (names := ["java/lang/RuntimeException", "java/lang/Exception"]) hx hb hst hown (by decide) (by decide) q_0 q_1 (vx_hat (L := vxw0) (fun w h => hts w (in_vx0 w h)) (fun w h => h) (vxh0 hTN)) vxg0 hTW.1 hTW.2 hS (hl.1.trans hml.symm) dX11_tick_10 dX11_tick_13 dX11_tick_14 dX11_tick_17 (fun x h => absurd h (hout x)) (Nat.le_of_ble_eq_true rfl) (Nat.le_of_ble_eq_true rfl) (Nat.le_of_ble_eq_true rfl) (Nat.le_of_ble_eq_true rfl) hlocks (fun t9 hv9 hz9 hq9 => ⟨(), hbad.symm, ⟨rfl, hP.kept (fun k q hk => hq9 q.1 (hP k q hk).lt), va_K.moved hv9 hK, hD⟩, ⟨Nat.le_trans hS.1 hz9, fun q h1 h2 => (hq9 q (Nat.lt_of_lt_of_le h1 hS.1)).trans (hS.2.1 q h1 h2)⟩⟩) hS.2.2 (Nat.le_of_ble_eq_true rfl) (Nat.le_of_ble_eq_true rfl)
  · skip
    refine lv_iload_n hx hb dX11_tick_4 rfl (lv_at hl 1 rfl) ?_
    refine lv_ldc (v := 1000000) hx hb hown q_2 dX11_tick_5 ?_
    refine lv_icmp_le (tgt := 18) hx hb dX11_tick_7 (by decide) (fun c_7 => ?_) (fun c_7 => ?_)
    · skip
      refine lv_aload_n hx hb dX11_tick_18 rfl (lv_at hl 0 rfl) ?_
      refine va_get (D := D) (ci := 11) (v := .ref a_mc) (C := RX11) (T := TX11) (N := 10) hx hb hts in_X11 hown hK hP 0 rfl rfl 0 (by decide) q_3 (fun _ h9 => h9) rfl dX11_tick_19 ?_
      refine va_getN (D := D) (ci := 5) (v := .ref a_me) (C := RX5) (T := TX5) (N := 4) hx hb hts in_X5 hown hK hP 1 rfl rfl 0 (by decide) n_0 (fun _ h9 => h9) rfl dX11_tick_22 ?_
      refine lv_bipush (v := 80) hx hb dX11_tick_25 (by decide) ?_
      have hPc : va_P D vwCl (wX6_word cI cB a_me a_by a_ks v_bF) H := hP.sub [2, 3] rfl
      have hDc : va_D A (wX6_word cI cB a_me a_by a_ks v_bF) := hD.sub [2, 3] (by decide) rfl
      have hFc := va_free (wc := (wX6_word cI cB a_me a_by a_ks v_bF)) hD hS hA [2, 3] rfl
      refine va_calli (va_runV (As := [.int 80]) (rest := []) ⟨hx, hb, hml, hown, hts⟩ (kX6_word l D cI cB a_me a_by a_ks H.size v_bF 80) (cwV 1 hts (gd_V wd_621 wd_532 wd_533 wd_78 wd_380) rfl rfl rfl hdX6_word ⟨Nat.le_of_ble_eq_true rfl, Nat.le_of_ble_eq_true rfl⟩) (preV_std (ci := 6) (q0 := 0) hPc hK hDc hNW rfl rfl) rfl rfl hl.1 rfl (lv_room (Nat.le_of_ble_eq_true rfl)) dX11_tick_27 ⟨Nat.zero_le _, Nat.zero_le _⟩) hS (fun q _ h => hFc q h) hFc (fun r_27 u_27 t9 H1 locs ht9 hvm9 hw9 hB9 hz9 hk9 hS => ?_)
      have er_27 : r_27 = fX6_word 80 v_bF := hw9
      obtain ⟨hP, hD⟩ := back_std (w1 := (wX6_word cI cB a_me a_by a_ks v_bF)) (w2 := (wX11_tick cI cB a_core a_wo a_sh a_co a_st a_de a_ed a_ins a_mc a_me a_ps a_by a_ks a_rg a_it v_wanted v_fault v_bF)) (wr := [(a_core, .inr (11, [.ref a_mc, .ref a_ins, .ref a_wo, .ref a_sh, .ref a_co, .ref a_st, .ref a_de, .ref a_ed, .ref a_it, .int v_wanted])), (a_mc, .inr (5, [.ref a_me, .ref a_ps, .ref a_rg, .int v_fault]))]) hP hD [2, 3] [0, 1] [0, 1, 2, 3] rfl rfl (by decide) (by decide) hk9 hFc hB9 ht9 (by decide) rfl
      clear hB9 hk9 hz9 hvm9 ht9 hFc hPc hDc
      generalize H1 = H at hP hS ⊢
      refine lv_istore_n (lv' := [(2, .int r_27), (0, .ref a_core), (1, .int x0)]) hx hb dX11_tick_30 rfl hl (by decide) rfl (fun ls hl => ?_)
      refine lv_iload_n hx hb dX11_tick_31 rfl (lv_at hl 0 rfl) ?_
      refine lv_iload_n hx hb dX11_tick_32 rfl (lv_at hl 2 rfl) ?_
      refine lv_isub hx hb dX11_tick_33 ?_
      refine lv_topi (fun x_34 ex_34 => ?_)
      refine lv_istore_n (lv' := [(3, .int x_34), (2, .int r_27), (0, .ref a_core), (1, .int x0)]) hx hb dX11_tick_34 rfl hl (by decide) rfl (fun ls hl => ?_)
      refine lv_aload_n hx hb dX11_tick_35 rfl (lv_at hl 2 rfl) ?_
      refine va_get (D := D) (ci := 11) (v := .ref a_mc) (C := RX11) (T := TX11) (N := 10) hx hb hts in_X11 hown hK hP 0 rfl rfl 0 (by decide) q_3 (fun _ h9 => h9) rfl dX11_tick_36 ?_
      refine va_getN (D := D) (ci := 5) (v := .ref a_me) (C := RX5) (T := TX5) (N := 4) hx hb hts in_X5 hown hK hP 1 rfl rfl 0 (by decide) n_0 (fun _ h9 => h9) rfl dX11_tick_39 ?_
      refine lv_bipush (v := 80) hx hb dX11_tick_42 (by decide) ?_
      refine lv_iload_n hx hb dX11_tick_44 rfl (lv_at hl 0 rfl) ?_
      refine lv_i2l hx hb dX11_tick_45 rfl ?_
      refine lv_iconst (v := 4) hx hb dX11_tick_46 (by decide) ?_
      have hPc : va_P D vwCl (wX6_setNumber cI cB a_me a_by a_ks v_bF) H := hP.sub [2, 3] rfl
      have hDc : va_D A (wX6_setNumber cI cB a_me a_by a_ks v_bF) := hD.sub [2, 3] (by decide) rfl
      have hFc := va_free (wc := (wX6_setNumber cI cB a_me a_by a_ks v_bF)) hD hS hA [2, 3] rfl
      refine va_callv (va_runV (As := [.int 80, .long (x_34 : Int32).toInt64, .int 4]) (rest := []) ⟨hx, hb, hml, hown, hts⟩ (kX6_setNumber l D cI cB a_me a_by a_ks H.size v_bF 80 ((x_34 : Int32).toInt64) 4) (cwV 3 hts (gd_V wd_612 wd_542 wd_543 wd_78 wd_378) rfl rfl rfl hdX6_setNumber ⟨Nat.le_of_ble_eq_true rfl, Nat.le_of_ble_eq_true rfl⟩) (preV_std (ci := 6) (q0 := 0) hPc hK hDc hNW rfl rfl) rfl rfl hl.1 rfl (lv_room (Nat.le_of_ble_eq_true rfl)) dX11_tick_47 ⟨Nat.zero_le _, Nat.zero_le _⟩) hS (fun q _ h => hFc q h) hFc (fun u_47 t9 H1 locs ht9 hvm9 hw9 hB9 hz9 hk9 hS => ?_)
      have eu_47 : u_47 = fX6_setNumber 80 ((x_34 : Int32).toInt64) 4 v_bF := hw9
      obtain ⟨hP, hD⟩ := back_std (w1 := (wX6_setNumber cI cB a_me a_by a_ks u_47)) (w2 := (wX11_tick cI cB a_core a_wo a_sh a_co a_st a_de a_ed a_ins a_mc a_me a_ps a_by a_ks a_rg a_it v_wanted v_fault u_47)) (wr := [(a_core, .inr (11, [.ref a_mc, .ref a_ins, .ref a_wo, .ref a_sh, .ref a_co, .ref a_st, .ref a_de, .ref a_ed, .ref a_it, .int v_wanted])), (a_mc, .inr (5, [.ref a_me, .ref a_ps, .ref a_rg, .int v_fault]))]) hP hD [2, 3] [0, 1] [0, 1, 2, 3] rfl rfl (by decide) (by decide) hk9 hFc hB9 ht9 (by decide) rfl
      clear hB9 hk9 hz9 hvm9 ht9 hFc hPc hDc
      generalize H1 = H at hP hS ⊢
      refine lv_iload_n hx hb dX11_tick_50 rfl (lv_at hl 1 rfl) ?_
      refine lv_if_lt (tgt := 70) hx hb dX11_tick_51 (by decide) (fun c_51 => ?_) (fun c_51 => ?_)
      · skip
        refine lv_iload_n hx hb dX11_tick_70 rfl (lv_at hl 0 rfl) ?_
        have hf9 : (x_34, (v_wanted, u_47)) = fX11_tick x0 v_wanted v_bF := by subst ex_34; simp only [fX11_tick, ← er_27, ← eu_47]; (try simp only [if_neg c_1, if_pos c_7, if_pos c_51])
        have hok : (0 : Int32) = tX11_tick x0 v_wanted v_bF := by subst ex_34; simp only [tX11_tick, ← er_27, ← eu_47]; (try simp only [if_neg c_1, if_pos c_7, if_pos c_51])
        refine W.widen (k := 1) (n := 6) (Nat.le_of_ble_eq_true rfl) (Nat.le_of_ble_eq_true rfl) (vx_ret ?_)
        exact W.iret hx hb hr (fun t9 ht9 hW9 => ⟨⟨x_34, (v_wanted, u_47), rfl, ⟨hok.symm, ⟨by rw [← hf9], by rw [← hf9]⟩⟩, ⟨by rw [ht9]; exact hP, va_K.moved hW9.alike hK, hD⟩⟩, hS.F ht9⟩) hS.2.2 dX11_tick_71
      · skip
        refine lv_iload_n hx hb dX11_tick_54 rfl (lv_at hl 0 rfl) ?_
        refine lv_if_ge (tgt := 70) hx hb dX11_tick_55 (by decide) (fun c_55 => ?_) (fun c_55 => ?_)
        · skip
          refine lv_iload_n hx hb dX11_tick_70 rfl (lv_at hl 0 rfl) ?_
          have hf9 : (x_34, (v_wanted, u_47)) = fX11_tick x0 v_wanted v_bF := by subst ex_34; simp only [fX11_tick, ← er_27, ← eu_47]; (try simp only [if_neg c_1, if_pos c_7, if_neg c_51, if_pos c_55])
          have hok : (0 : Int32) = tX11_tick x0 v_wanted v_bF := by subst ex_34; simp only [tX11_tick, ← er_27, ← eu_47]; (try simp only [if_neg c_1, if_pos c_7, if_neg c_51, if_pos c_55])
          refine W.widen (k := 1) (n := 6) (Nat.le_of_ble_eq_true rfl) (Nat.le_of_ble_eq_true rfl) (vx_ret ?_)
          exact W.iret hx hb hr (fun t9 ht9 hW9 => ⟨⟨x_34, (v_wanted, u_47), rfl, ⟨hok.symm, ⟨by rw [← hf9], by rw [← hf9]⟩⟩, ⟨by rw [ht9]; exact hP, va_K.moved hW9.alike hK, hD⟩⟩, hS.F ht9⟩) hS.2.2 dX11_tick_71
        · skip
          refine lv_aload_n hx hb dX11_tick_58 rfl (lv_at hl 2 rfl) ?_
          refine lv_dup hx hb dX11_tick_59 rfl ?_
          refine va_get (D := D) (ci := 11) (v := .int v_wanted) (C := RX11) (T := TX11) (N := 10) hx hb hts in_X11 hown hK hP 0 rfl rfl 9 (by decide) q_4 (fun _ h9 => h9) rfl dX11_tick_60 ?_
          refine lv_sipush (v := 128) hx hb dX11_tick_63 (by decide) ?_
          refine lv_ior hx hb dX11_tick_66 ?_
          refine lv_topi (fun x_67 ex_67 => ?_)
          refine va_put (D := D) (ci := 11) (v := .int x_67) (ty := .int) (C := RX11) (T := TX11) (N := 10) hx hb hts in_X11 tyX11 tyX11_ok nmX11 hown hK hP hD hS 0 rfl rfl 9 (by decide) q_4 (fun _ h9 => h9) rfl (by decide +kernel) rfl rfl (Nat.le_of_ble_eq_true rfl) dX11_tick_67 (fun H locs hP hD hS => ?_)
          have hP : va_P D vwCl (wX11_tick cI cB a_core a_wo a_sh a_co a_st a_de a_ed a_ins a_mc a_me a_ps a_by a_ks a_rg a_it x_67 v_fault u_47) H := hP
          have hD : va_D A (wX11_tick cI cB a_core a_wo a_sh a_co a_st a_de a_ed a_ins a_mc a_me a_ps a_by a_ks a_rg a_it x_67 v_fault u_47) := hD
          refine lv_iload_n hx hb dX11_tick_70 rfl (lv_at hl 0 rfl) ?_
          have hf9 : (x_34, (x_67, u_47)) = fX11_tick x0 v_wanted v_bF := by subst ex_67; subst ex_34; simp only [fX11_tick, ← er_27, ← eu_47]; (try simp only [if_neg c_1, if_pos c_7, if_neg c_51, if_neg c_55])
          have hok : (0 : Int32) = tX11_tick x0 v_wanted v_bF := by subst ex_67; subst ex_34; simp only [tX11_tick, ← er_27, ← eu_47]; (try simp only [if_neg c_1, if_pos c_7, if_neg c_51, if_neg c_55])
          refine W.widen (k := 1) (n := 6) (Nat.le_of_ble_eq_true rfl) (Nat.le_of_ble_eq_true rfl) (vx_ret ?_)
          exact W.iret hx hb hr (fun t9 ht9 hW9 => ⟨⟨x_34, (x_67, u_47), rfl, ⟨hok.symm, ⟨by rw [← hf9], by rw [← hf9]⟩⟩, ⟨by rw [ht9]; exact hP, va_K.moved hW9.alike hK, hD⟩⟩, hS.F ht9⟩) hS.2.2 dX11_tick_71
    · skip
      have hbad : (1 : Int32) = tX11_tick x0 v_wanted v_bF := by simp only [tX11_tick]; (try simp only [if_neg c_1, if_neg c_7])
      exact vx_throw0 (mc := 1) (ms := 6) (A := A) (names := ["java/lang/RuntimeException", "java/lang/Exception"]) hx hb hst hown (by decide) (by decide) q_0 q_1 (vx_hat (L := vxw0) (fun w h => hts w (in_vx0 w h)) (fun w h => h) (vxh0 hTN)) vxg0 hTW.1 hTW.2 hS (hl.1.trans hml.symm) dX11_tick_10 dX11_tick_13 dX11_tick_14 dX11_tick_17 (fun x h => absurd h (hout x)) (Nat.le_of_ble_eq_true rfl) (Nat.le_of_ble_eq_true rfl) (Nat.le_of_ble_eq_true rfl) (Nat.le_of_ble_eq_true rfl) hlocks (fun t9 hv9 hz9 hq9 => ⟨(), hbad.symm, ⟨rfl, hP.kept (fun k q hk => hq9 q.1 (hP k q hk).lt), va_K.moved hv9 hK, hD⟩, ⟨Nat.le_trans hS.1 hz9, fun q h1 h2 => (hq9 q (Nat.lt_of_lt_of_le h1 hS.1)).trans (hS.2.1 q h1 h2)⟩⟩) hS.2.2 (Nat.le_of_ble_eq_true rfl) (Nat.le_of_ble_eq_true rfl)
theorem hdX11_tick : yX11_tick.cls = RX11 ∧ yX11_tick.cls ≠ "java/lang/invoke/MethodHandle" ∧ yX11_tick.cls ≠ "java/lang/invoke/VarHandle" ∧ (parseMethodDescriptor yX11_tick.desc).map (fun d => d.parameters.length) = some 1 := by decide +kernel
noncomputable def fX11_told (x0 : Int32) (v_itF : (Nat → Int32)) : Int32 :=
  if x0 < 0 then (0) else (if x0 ≤ 2 then ((v_itF (x0 : Int32).toNatClampNeg)) else (0))
noncomputable def tX11_told (x0 : Int32) (v_itF : (Nat → Int32)) : Int32 :=
  if x0 < 0 then (1) else (if x0 ≤ 2 then (0) else (1))
abbrev wX11_told (cI cB : ClassId) (a_core a_wo a_sh a_co a_st a_de a_ed a_ins a_mc a_it : Nat) (v_wanted : Int32) (v_itF : (Nat → Int32)) : va_W := [(a_core, .inr (11, [.ref a_mc, .ref a_ins, .ref a_wo, .ref a_sh, .ref a_co, .ref a_st, .ref a_de, .ref a_ed, .ref a_it, .int v_wanted])), (a_it, .inl (cI, 3, .inl v_itF))]
abbrev rmX11_told : Room := { frames := 6, cells := 1, slots := 6, locals := 81 }
abbrev qX11_told (D : va_G) (cI cB : ClassId) (a_core a_wo a_sh a_co a_st a_de a_ed a_ins a_mc a_it : Nat) (v_wanted : Int32) (v_itF : (Nat → Int32)) (x0 : Int32) : (Nat → Prop) → Array Value → State → Outcome → State → Prop := fun A9 => va_Qi (fun (r9 : Int32) (u9 : Unit) => tX11_told x0 v_itF = 0 ∧ (r9 = fX11_told x0 v_itF)) (fun u9 t9 => atW D (TYS cI cB) A9 (wX11_told cI cB a_core a_wo a_sh a_co a_st a_de a_ed a_ins a_mc a_it v_wanted v_itF) t9) A9
abbrev xX11_told (D : va_G) (cI cB : ClassId) (a_core a_wo a_sh a_co a_st a_de a_ed a_ins a_mc a_it : Nat) (v_wanted : Int32) (v_itF : (Nat → Int32)) (x0 : Int32) : (Nat → Prop) → String → State → State → Prop := fun A9 => vx_X (S := Unit) (fun _ => tX11_told x0 v_itF = 1) (fun E9 _ t9 => E9 = "java/lang/IllegalArgumentException" ∧ atW D (TYS cI cB) A9 (wX11_told cI cB a_core a_wo a_sh a_co a_st a_de a_ed a_ins a_mc a_it v_wanted v_itF) t9) A9
set_option maxHeartbeats 4000000 in
set_option maxRecDepth 100000 in
theorem kX11_told (l : Launch) (D : va_G) (cI cB : ClassId) (aO aN : Nat) (a_core a_wo a_sh a_co a_st a_de a_ed a_ins a_mc a_it : Nat) (sz : Nat) (v_wanted : Int32) (v_itF : (Nat → Int32)) (x0 : Int32) (hst : l.stackTraces = false) : MetX aO aN l yX11_told (WK yX11_told cX11_told 2 (some .int)) rmX11_told D (TYS cI cB) (wX11_told cI cB a_core a_wo a_sh a_co a_st a_de a_ed a_ins a_mc a_it v_wanted v_itF) sz [.ref a_core, .int x0] (qX11_told D cI cB a_core a_wo a_sh a_co a_st a_de a_ed a_ins a_mc a_it v_wanted v_itF x0) (xX11_told D cI cB a_core a_wo a_sh a_co a_st a_de a_ed a_ins a_mc a_it v_wanted v_itF x0) := by
  refine met_stdX (by decide) rfl (Nat.le_of_ble_eq_true rfl) ?_
  intro p e s m below meth c A ls H hx hb hr hml hown hts hlocks hA hP hK hD hS hNW hZT hTW hTN hout hl
  have hl : lv_has ls 2 [(0, .ref a_core), (1, .int x0)] := hl
  have q_0 := hts _ (List.mem_cons_of_mem _ wd_607)
  have q_1 := hts _ (List.mem_cons_of_mem _ wd_608)
  have q_2 := hts _ (List.mem_cons_of_mem _ wd_579)
  refine lv_iload_n hx hb dX11_told_0 rfl (lv_at hl 1 rfl) ?_
  refine lv_if_lt (tgt := 9) hx hb dX11_told_1 (by decide) (fun c_1 => ?_) (fun c_1 => ?_)
  · skip
    have hbad : (1 : Int32) = tX11_told x0 v_itF := by simp only [tX11_told]; (try simp only [if_pos c_1])
    exact vx_throw0 (mc := 1) (ms := 6) (A := A) (names := ["java/lang/RuntimeException", "java/lang/Exception"]) hx hb hst hown (by decide) (by decide) q_0 q_1 (vx_hat (L := vxw0) (fun w h => hts w (in_vx0 w h)) (fun w h => h) (vxh0 hTN)) vxg0 hTW.1 hTW.2 hS (hl.1.trans hml.symm) dX11_told_9 dX11_told_12 dX11_told_13 dX11_told_16 (fun x h => absurd h (hout x)) (Nat.le_of_ble_eq_true rfl) (Nat.le_of_ble_eq_true rfl) (Nat.le_of_ble_eq_true rfl) (Nat.le_of_ble_eq_true rfl) hlocks (fun t9 hv9 hz9 hq9 => ⟨(), hbad.symm, ⟨rfl, hP.kept (fun k q hk => hq9 q.1 (hP k q hk).lt), va_K.moved hv9 hK, hD⟩, ⟨Nat.le_trans hS.1 hz9, fun q h1 h2 => (hq9 q (Nat.lt_of_lt_of_le h1 hS.1)).trans (hS.2.1 q h1 h2)⟩⟩) hS.2.2 (Nat.le_of_ble_eq_true rfl) (Nat.le_of_ble_eq_true rfl)
  · skip
    refine lv_iload_n hx hb dX11_told_4 rfl (lv_at hl 1 rfl) ?_
    refine lv_iconst (v := 2) hx hb dX11_told_5 (by decide) ?_
    refine lv_icmp_le (tgt := 17) hx hb dX11_told_6 (by decide) (fun c_6 => ?_) (fun c_6 => ?_)
    · skip
      refine lv_aload_n hx hb dX11_told_17 rfl (lv_at hl 0 rfl) ?_
      refine va_get (D := D) (ci := 11) (v := .ref a_it) (C := RX11) (T := TX11) (N := 10) hx hb hts in_X11 hown hK hP 0 rfl rfl 8 (by decide) q_2 (fun _ h9 => h9) rfl dX11_told_18 ?_
      refine lv_iload_n hx hb dX11_told_21 rfl (lv_at hl 1 rfl) ?_
      refine va_iald hx hb hK hP 1 0 rfl rfl (vin_le (B := 2) (by decide) c_1 c_6) dX11_told_22 ?_
      have hf9 : (v_itF (x0 : Int32).toNatClampNeg) = fX11_told x0 v_itF := by simp only [fX11_told]; (try simp only [if_neg c_1, if_pos c_6])
      have hok : (0 : Int32) = tX11_told x0 v_itF := by simp only [tX11_told]; (try simp only [if_neg c_1, if_pos c_6])
      refine W.widen (k := 1) (n := 6) (Nat.le_of_ble_eq_true rfl) (Nat.le_of_ble_eq_true rfl) (vx_ret ?_)
      exact W.iret hx hb hr (fun t9 ht9 hW9 => ⟨⟨(v_itF (x0 : Int32).toNatClampNeg), (), rfl, ⟨hok.symm, hf9⟩, ⟨by rw [ht9]; exact hP, va_K.moved hW9.alike hK, hD⟩⟩, hS.F ht9⟩) hS.2.2 dX11_told_23
    · skip
      have hbad : (1 : Int32) = tX11_told x0 v_itF := by simp only [tX11_told]; (try simp only [if_neg c_1, if_neg c_6])
      exact vx_throw0 (mc := 1) (ms := 6) (A := A) (names := ["java/lang/RuntimeException", "java/lang/Exception"]) hx hb hst hown (by decide) (by decide) q_0 q_1 (vx_hat (L := vxw0) (fun w h => hts w (in_vx0 w h)) (fun w h => h) (vxh0 hTN)) vxg0 hTW.1 hTW.2 hS (hl.1.trans hml.symm) dX11_told_9 dX11_told_12 dX11_told_13 dX11_told_16 (fun x h => absurd h (hout x)) (Nat.le_of_ble_eq_true rfl) (Nat.le_of_ble_eq_true rfl) (Nat.le_of_ble_eq_true rfl) (Nat.le_of_ble_eq_true rfl) hlocks (fun t9 hv9 hz9 hq9 => ⟨(), hbad.symm, ⟨rfl, hP.kept (fun k q hk => hq9 q.1 (hP k q hk).lt), va_K.moved hv9 hK, hD⟩, ⟨Nat.le_trans hS.1 hz9, fun q h1 h2 => (hq9 q (Nat.lt_of_lt_of_le h1 hS.1)).trans (hS.2.1 q h1 h2)⟩⟩) hS.2.2 (Nat.le_of_ble_eq_true rfl) (Nat.le_of_ble_eq_true rfl)
theorem hdX11_told : yX11_told.cls = RX11 ∧ yX11_told.cls ≠ "java/lang/invoke/MethodHandle" ∧ yX11_told.cls ≠ "java/lang/invoke/VarHandle" ∧ (parseMethodDescriptor yX11_told.desc).map (fun d => d.parameters.length) = some 1 := by decide +kernel
