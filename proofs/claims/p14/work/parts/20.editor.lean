noncomputable def fX3_begin (v_fill : Int32) (v_on : Int32) (v_fnz : Int32) (v_next : Int32) (v_sec : Int32) (v_mark : Int32) (v_a : Int32) (v_b : Int32) (v_bF : (Nat → Int32)) : (Int32 × Int32 × Int32 × Int32 × Int32 × Int32) :=
  let r_12 := fX6_get v_a v_bF
  (r_12, 0, 0, v_b, (-1), (-1))
abbrev wX3_begin (cI cB : ClassId) (a_ed a_ins a_mc a_me a_by a_ks a_made : Nat) (v_fill : Int32) (v_on : Int32) (v_fnz : Int32) (v_next : Int32) (v_sec : Int32) (v_sab : Int32) (v_mark : Int32) (v_op : Int32) (v_i : Int32) (v_r : Int32) (v_s : Int32) (v_a : Int32) (v_b : Int32) (v_bF : (Nat → Int32)) : va_W := [(a_ed, .inr (3, [.ref a_mc, .ref a_ins, .ref a_me, .ref a_made, .int v_fill, .int v_on, .int v_fnz, .int v_next, .int v_sec, .int v_sab, .int v_mark])), (a_ins, .inr (4, [.ref a_mc, .ref a_me, .int v_op, .int v_i, .int v_r, .int v_s, .int v_a, .int v_b])), (a_me, .inr (6, [.ref a_by, .ref a_ks])), (a_by, .inl (cB, 8192, .inl v_bF))]
abbrev rmX3_begin : Room := { frames := 1, cells := 0, slots := 0, locals := 21 }
abbrev qX3_begin (D : va_G) (cI cB : ClassId) (a_ed a_ins a_mc a_me a_by a_ks a_made : Nat) (v_fill : Int32) (v_on : Int32) (v_fnz : Int32) (v_next : Int32) (v_sec : Int32) (v_sab : Int32) (v_mark : Int32) (v_op : Int32) (v_i : Int32) (v_r : Int32) (v_s : Int32) (v_a : Int32) (v_b : Int32) (v_bF : (Nat → Int32)) : (Nat → Prop) → Array Value → State → Outcome → State → Prop := fun A9 => va_Qv (fun (u9 : (Int32 × Int32 × Int32 × Int32 × Int32 × Int32)) => u9 = fX3_begin v_fill v_on v_fnz v_next v_sec v_mark v_a v_b v_bF) (fun u9 t9 => atW D (TYS cI cB) A9 (wX3_begin cI cB a_ed a_ins a_mc a_me a_by a_ks a_made u9.1 u9.2.1 u9.2.2.1 u9.2.2.2.1 u9.2.2.2.2.1 v_sab u9.2.2.2.2.2 v_op v_i v_r v_s v_a v_b v_bF) t9) A9
set_option maxHeartbeats 4000000 in
set_option maxRecDepth 100000 in
theorem kX3_begin (l : Launch) (D : va_G) (cI cB : ClassId) (a_ed a_ins a_mc a_me a_by a_ks a_made : Nat) (sz : Nat) (v_fill : Int32) (v_on : Int32) (v_fnz : Int32) (v_next : Int32) (v_sec : Int32) (v_sab : Int32) (v_mark : Int32) (v_op : Int32) (v_i : Int32) (v_r : Int32) (v_s : Int32) (v_a : Int32) (v_b : Int32) (v_bF : (Nat → Int32)) : MetW l yX3_begin (WK yX3_begin cX3_begin 1 none) rmX3_begin D (TYS cI cB) (wX3_begin cI cB a_ed a_ins a_mc a_me a_by a_ks a_made v_fill v_on v_fnz v_next v_sec v_sab v_mark v_op v_i v_r v_s v_a v_b v_bF) sz [.ref a_ed] (qX3_begin D cI cB a_ed a_ins a_mc a_me a_by a_ks a_made v_fill v_on v_fnz v_next v_sec v_sab v_mark v_op v_i v_r v_s v_a v_b v_bF) 0 0 := by
  refine met_std (by decide) rfl (Nat.le_of_ble_eq_true rfl) ?_
  intro p e s m below meth c A ls H hx hb hr hml hown hts hlocks hA hP hK hD hS hNW hl
  have hl : lv_has ls 1 [(0, .ref a_ed)] := hl
  have q_0 := hts _ (List.mem_cons_of_mem _ wd_284)
  have q_1 := hts _ (List.mem_cons_of_mem _ wd_283)
  have q_2 := hts _ (List.mem_cons_of_mem _ wd_287)
  have q_3 := hts _ (List.mem_cons_of_mem _ wd_288)
  have q_4 := hts _ (List.mem_cons_of_mem _ wd_289)
  have q_5 := hts _ (List.mem_cons_of_mem _ wd_290)
  have q_6 := hts _ (List.mem_cons_of_mem _ wd_291)
  have q_7 := hts _ (List.mem_cons_of_mem _ wd_292)
  have n_0 := hNW.f (A := ([.ref a_ed] : List Value).toArray) ("MainframeCore$Editor", 36, "MainframeCore$Instruction", "a", "I", "MainframeCore") (by decide +kernel)
  have n_1 := hNW.f (A := ([.ref a_ed] : List Value).toArray) ("MainframeCore$Editor", 89, "MainframeCore$Instruction", "b", "I", "MainframeCore") (by decide +kernel)
  refine lv_aload_n hx hb dX3_begin_0 rfl (lv_at hl 0 rfl) ?_
  refine lv_aload_n hx hb dX3_begin_1 rfl (lv_at hl 0 rfl) ?_
  refine va_get (D := D) (ci := 3) (v := .ref a_me) (C := RX3) (T := TX3) (N := 11) hx hb hts in_X3 hown hK hP 0 rfl rfl 2 (by decide) q_0 (fun _ h9 => h9) rfl dX3_begin_2 ?_
  refine lv_aload_n hx hb dX3_begin_5 rfl (lv_at hl 0 rfl) ?_
  refine va_get (D := D) (ci := 3) (v := .ref a_ins) (C := RX3) (T := TX3) (N := 11) hx hb hts in_X3 hown hK hP 0 rfl rfl 1 (by decide) q_1 (fun _ h9 => h9) rfl dX3_begin_6 ?_
  refine va_getN (D := D) (ci := 4) (v := .int v_a) (C := RX4) (T := TX4) (N := 8) hx hb hts in_X4 hown hK hP 1 rfl rfl 6 (by decide) n_0 (fun _ h9 => h9) rfl dX3_begin_9 ?_
  have hPc : va_P D vwCl (wX6_get cI cB a_me a_by a_ks v_bF) H := hP.sub [2, 3] rfl
  have hDc : va_D A (wX6_get cI cB a_me a_by a_ks v_bF) := hD.sub [2, 3] (by decide) rfl
  have hFc := va_free (wc := (wX6_get cI cB a_me a_by a_ks v_bF)) hD hS hA [2, 3] rfl
  refine va_calli (va_runV (As := [.int v_a]) (rest := [.ref a_ed]) ⟨hx, hb, hml, hown, hts⟩ (kX6_get l D cI cB a_me a_by a_ks H.size v_bF v_a) (cwV 1 hts (gd_V wd_293 wd_109 wd_110 wd_78 wd_102) rfl rfl rfl hdX6_get ⟨Nat.le_of_ble_eq_true rfl, Nat.le_of_ble_eq_true rfl⟩) (preV_std (ci := 6) (q0 := 0) hPc hK hDc hNW rfl rfl) rfl rfl hl.1 rfl (lv_room (Nat.le_of_ble_eq_true rfl)) dX3_begin_12 ⟨Nat.zero_le _, Nat.zero_le _⟩) hS (fun q _ h => hFc q h) hFc (fun r_12 u_12 t9 H1 locs ht9 hvm9 hw9 hB9 hz9 hk9 hS => ?_)
  have er_12 : r_12 = fX6_get v_a v_bF := hw9
  obtain ⟨hP, hD⟩ := back_std (w1 := (wX6_get cI cB a_me a_by a_ks v_bF)) (w2 := (wX3_begin cI cB a_ed a_ins a_mc a_me a_by a_ks a_made v_fill v_on v_fnz v_next v_sec v_sab v_mark v_op v_i v_r v_s v_a v_b v_bF)) (wr := [(a_ed, .inr (3, [.ref a_mc, .ref a_ins, .ref a_me, .ref a_made, .int v_fill, .int v_on, .int v_fnz, .int v_next, .int v_sec, .int v_sab, .int v_mark])), (a_ins, .inr (4, [.ref a_mc, .ref a_me, .int v_op, .int v_i, .int v_r, .int v_s, .int v_a, .int v_b]))]) hP hD [2, 3] [0, 1] [0, 1, 2, 3] rfl rfl (by decide) (by decide) hk9 hFc hB9 ht9 (by decide) rfl
  clear hB9 hk9 hz9 hvm9 ht9 hFc hPc hDc
  generalize H1 = H at hP hS ⊢
  refine va_put (D := D) (ci := 3) (v := .int r_12) (ty := .int) (C := RX3) (T := TX3) (N := 11) hx hb hts in_X3 tyX3 tyX3_ok nmX3 hown hK hP hD hS 0 rfl rfl 4 (by decide) q_2 (fun _ h9 => h9) rfl (by decide +kernel) rfl rfl (Nat.le_of_ble_eq_true rfl) dX3_begin_15 (fun H locs hP hD hS => ?_)
  have hP : va_P D vwCl (wX3_begin cI cB a_ed a_ins a_mc a_me a_by a_ks a_made r_12 v_on v_fnz v_next v_sec v_sab v_mark v_op v_i v_r v_s v_a v_b v_bF) H := hP
  have hD : va_D A (wX3_begin cI cB a_ed a_ins a_mc a_me a_by a_ks a_made r_12 v_on v_fnz v_next v_sec v_sab v_mark v_op v_i v_r v_s v_a v_b v_bF) := hD
  refine lv_aload_n hx hb dX3_begin_18 rfl (lv_at hl 0 rfl) ?_
  refine lv_iconst (v := 0) hx hb dX3_begin_19 (by decide) ?_
  refine va_put (D := D) (ci := 3) (v := .int 0) (ty := .boolean) (C := RX3) (T := TX3) (N := 11) hx hb hts in_X3 tyX3 tyX3_ok nmX3 hown hK hP hD hS 0 rfl rfl 5 (by decide) q_3 (fun _ h9 => h9) rfl (by decide +kernel) rfl rfl (Nat.le_of_ble_eq_true rfl) dX3_begin_20 (fun H locs hP hD hS => ?_)
  have hP : va_P D vwCl (wX3_begin cI cB a_ed a_ins a_mc a_me a_by a_ks a_made r_12 0 v_fnz v_next v_sec v_sab v_mark v_op v_i v_r v_s v_a v_b v_bF) H := hP
  have hD : va_D A (wX3_begin cI cB a_ed a_ins a_mc a_me a_by a_ks a_made r_12 0 v_fnz v_next v_sec v_sab v_mark v_op v_i v_r v_s v_a v_b v_bF) := hD
  refine lv_aload_n hx hb dX3_begin_23 rfl (lv_at hl 0 rfl) ?_
  refine lv_iconst (v := 0) hx hb dX3_begin_24 (by decide) ?_
  refine va_put (D := D) (ci := 3) (v := .int 0) (ty := .boolean) (C := RX3) (T := TX3) (N := 11) hx hb hts in_X3 tyX3 tyX3_ok nmX3 hown hK hP hD hS 0 rfl rfl 6 (by decide) q_4 (fun _ h9 => h9) rfl (by decide +kernel) rfl rfl (Nat.le_of_ble_eq_true rfl) dX3_begin_25 (fun H locs hP hD hS => ?_)
  have hP : va_P D vwCl (wX3_begin cI cB a_ed a_ins a_mc a_me a_by a_ks a_made r_12 0 0 v_next v_sec v_sab v_mark v_op v_i v_r v_s v_a v_b v_bF) H := hP
  have hD : va_D A (wX3_begin cI cB a_ed a_ins a_mc a_me a_by a_ks a_made r_12 0 0 v_next v_sec v_sab v_mark v_op v_i v_r v_s v_a v_b v_bF) := hD
  refine lv_aload_n hx hb dX3_begin_28 rfl (lv_at hl 0 rfl) ?_
  refine lv_aload_n hx hb dX3_begin_29 rfl (lv_at hl 0 rfl) ?_
  refine va_get (D := D) (ci := 3) (v := .ref a_ins) (C := RX3) (T := TX3) (N := 11) hx hb hts in_X3 hown hK hP 0 rfl rfl 1 (by decide) q_1 (fun _ h9 => h9) rfl dX3_begin_30 ?_
  refine va_getN (D := D) (ci := 4) (v := .int v_b) (C := RX4) (T := TX4) (N := 8) hx hb hts in_X4 hown hK hP 1 rfl rfl 7 (by decide) n_1 (fun _ h9 => h9) rfl dX3_begin_33 ?_
  refine va_put (D := D) (ci := 3) (v := .int v_b) (ty := .int) (C := RX3) (T := TX3) (N := 11) hx hb hts in_X3 tyX3 tyX3_ok nmX3 hown hK hP hD hS 0 rfl rfl 7 (by decide) q_5 (fun _ h9 => h9) rfl (by decide +kernel) rfl rfl (Nat.le_of_ble_eq_true rfl) dX3_begin_36 (fun H locs hP hD hS => ?_)
  have hP : va_P D vwCl (wX3_begin cI cB a_ed a_ins a_mc a_me a_by a_ks a_made r_12 0 0 v_b v_sec v_sab v_mark v_op v_i v_r v_s v_a v_b v_bF) H := hP
  have hD : va_D A (wX3_begin cI cB a_ed a_ins a_mc a_me a_by a_ks a_made r_12 0 0 v_b v_sec v_sab v_mark v_op v_i v_r v_s v_a v_b v_bF) := hD
  refine lv_aload_n hx hb dX3_begin_39 rfl (lv_at hl 0 rfl) ?_
  refine lv_iconst (v := (-1)) hx hb dX3_begin_40 (by decide) ?_
  refine va_put (D := D) (ci := 3) (v := .int (-1)) (ty := .int) (C := RX3) (T := TX3) (N := 11) hx hb hts in_X3 tyX3 tyX3_ok nmX3 hown hK hP hD hS 0 rfl rfl 8 (by decide) q_6 (fun _ h9 => h9) rfl (by decide +kernel) rfl rfl (Nat.le_of_ble_eq_true rfl) dX3_begin_41 (fun H locs hP hD hS => ?_)
  have hP : va_P D vwCl (wX3_begin cI cB a_ed a_ins a_mc a_me a_by a_ks a_made r_12 0 0 v_b (-1) v_sab v_mark v_op v_i v_r v_s v_a v_b v_bF) H := hP
  have hD : va_D A (wX3_begin cI cB a_ed a_ins a_mc a_me a_by a_ks a_made r_12 0 0 v_b (-1) v_sab v_mark v_op v_i v_r v_s v_a v_b v_bF) := hD
  refine lv_aload_n hx hb dX3_begin_44 rfl (lv_at hl 0 rfl) ?_
  refine lv_iconst (v := (-1)) hx hb dX3_begin_45 (by decide) ?_
  refine va_put (D := D) (ci := 3) (v := .int (-1)) (ty := .int) (C := RX3) (T := TX3) (N := 11) hx hb hts in_X3 tyX3 tyX3_ok nmX3 hown hK hP hD hS 0 rfl rfl 10 (by decide) q_7 (fun _ h9 => h9) rfl (by decide +kernel) rfl rfl (Nat.le_of_ble_eq_true rfl) dX3_begin_46 (fun H locs hP hD hS => ?_)
  have hP : va_P D vwCl (wX3_begin cI cB a_ed a_ins a_mc a_me a_by a_ks a_made r_12 0 0 v_b (-1) v_sab (-1) v_op v_i v_r v_s v_a v_b v_bF) H := hP
  have hD : va_D A (wX3_begin cI cB a_ed a_ins a_mc a_me a_by a_ks a_made r_12 0 0 v_b (-1) v_sab (-1) v_op v_i v_r v_s v_a v_b v_bF) := hD
  have hf9 : (r_12, 0, 0, v_b, (-1), (-1)) = fX3_begin v_fill v_on v_fnz v_next v_sec v_mark v_a v_b v_bF := by simp only [fX3_begin, ← er_12]
  exact W.vret hx hb hr (fun t9 ht9 hW9 => ⟨⟨(r_12, 0, 0, v_b, (-1), (-1)), rfl, hf9, ⟨by rw [ht9]; exact hP, va_K.moved hW9.alike hK, hD⟩⟩, hS.F ht9⟩) hS.2.2 dX3_begin_49
theorem hdX3_begin : yX3_begin.cls = RX3 ∧ yX3_begin.cls ≠ "java/lang/invoke/MethodHandle" ∧ yX3_begin.cls ≠ "java/lang/invoke/VarHandle" ∧ (parseMethodDescriptor yX3_begin.desc).map (fun d => d.parameters.length) = some 0 := by decide +kernel
noncomputable def fX3_nextDigit (v_next : Int32) (v_sec : Int32) (v_sab : Int32) (v_fault : Int32) (v_word : Int64) (v_bF : (Nat → Int32)) (v_kF : (Nat → Int32)) : (Int32 × (Int32 × Int32 × Int32 × Int32)) :=
  if v_sec = (-1) then (let u_35 := fX5_demand v_next 1 0 v_fault v_word v_kF; let r_46 := fX6_get v_next v_bF; let x_60 := ((v_next + 1) &&& 16777215); let m_80 : Int32 := (if (r_46 >>> (4 &&& 31)) ≤ 9 then (u_35) else (let u_77 := fX5_fail 7 u_35; u_77)); let r_84 := fX1_isSign (r_46 &&& 15); if r_84 = 0 then (let x_117 := (r_46 &&& 15); ((r_46 >>> (4 &&& 31)), (x_60, x_117, 0, m_80))) else (let r_95 := fX1_isSignBelow (r_46 &&& 15); let m_106 : Int32 := (if r_95 = 0 then (1) else (0)); ((r_46 >>> (4 &&& 31)), (x_60, v_sec, m_106, m_80)))) else ((v_sec, (v_next, (-1), 0, v_fault)))
abbrev wX3_nextDigit (cI cB : ClassId) (a_ed a_ins a_mc a_me a_ps a_by a_ks a_rg a_made : Nat) (v_fill : Int32) (v_on : Int32) (v_fnz : Int32) (v_next : Int32) (v_sec : Int32) (v_sab : Int32) (v_mark : Int32) (v_fault : Int32) (v_word : Int64) (v_bF : (Nat → Int32)) (v_kF : (Nat → Int32)) : va_W := [(a_ed, .inr (3, [.ref a_mc, .ref a_ins, .ref a_me, .ref a_made, .int v_fill, .int v_on, .int v_fnz, .int v_next, .int v_sec, .int v_sab, .int v_mark])), (a_mc, .inr (5, [.ref a_me, .ref a_ps, .ref a_rg, .int v_fault])), (a_me, .inr (6, [.ref a_by, .ref a_ks])), (a_ps, .inr (7, [.long v_word])), (a_by, .inl (cB, 8192, .inl v_bF)), (a_ks, .inl (cI, 4, .inl v_kF))]
abbrev rmX3_nextDigit : Room := { frames := 2, cells := 0, slots := 0, locals := 49 }
abbrev qX3_nextDigit (D : va_G) (cI cB : ClassId) (a_ed a_ins a_mc a_me a_ps a_by a_ks a_rg a_made : Nat) (v_fill : Int32) (v_on : Int32) (v_fnz : Int32) (v_next : Int32) (v_sec : Int32) (v_sab : Int32) (v_mark : Int32) (v_fault : Int32) (v_word : Int64) (v_bF : (Nat → Int32)) (v_kF : (Nat → Int32)) : (Nat → Prop) → Array Value → State → Outcome → State → Prop := fun A9 => va_Qi (fun (r9 : Int32) (u9 : (Int32 × Int32 × Int32 × Int32)) => r9 = (fX3_nextDigit v_next v_sec v_sab v_fault v_word v_bF v_kF).1 ∧ u9 = (fX3_nextDigit v_next v_sec v_sab v_fault v_word v_bF v_kF).2) (fun u9 t9 => atW D (TYS cI cB) A9 (wX3_nextDigit cI cB a_ed a_ins a_mc a_me a_ps a_by a_ks a_rg a_made v_fill v_on v_fnz u9.1 u9.2.1 u9.2.2.1 v_mark u9.2.2.2 v_word v_bF v_kF) t9) A9
set_option maxHeartbeats 4000000 in
set_option maxRecDepth 100000 in
theorem kX3_nextDigit (l : Launch) (D : va_G) (cI cB : ClassId) (a_ed a_ins a_mc a_me a_ps a_by a_ks a_rg a_made : Nat) (sz : Nat) (v_fill : Int32) (v_on : Int32) (v_fnz : Int32) (v_next : Int32) (v_sec : Int32) (v_sab : Int32) (v_mark : Int32) (v_fault : Int32) (v_word : Int64) (v_bF : (Nat → Int32)) (v_kF : (Nat → Int32)) : MetW l yX3_nextDigit (WK yX3_nextDigit cX3_nextDigit 2 (some .int)) rmX3_nextDigit D (TYS cI cB) (wX3_nextDigit cI cB a_ed a_ins a_mc a_me a_ps a_by a_ks a_rg a_made v_fill v_on v_fnz v_next v_sec v_sab v_mark v_fault v_word v_bF v_kF) sz [.ref a_ed] (qX3_nextDigit D cI cB a_ed a_ins a_mc a_me a_ps a_by a_ks a_rg a_made v_fill v_on v_fnz v_next v_sec v_sab v_mark v_fault v_word v_bF v_kF) 0 0 := by
  refine met_std (by decide) rfl (Nat.le_of_ble_eq_true rfl) ?_
  intro p e s m below meth c A ls H hx hb hr hml hown hts hlocks hA hP hK hD hS hNW hl
  have hl : lv_has ls 2 [(0, .ref a_ed)] := hl
  have q_0 := hts _ (List.mem_cons_of_mem _ wd_294)
  have q_1 := hts _ (List.mem_cons_of_mem _ wd_291)
  have q_2 := hts _ (List.mem_cons_of_mem _ wd_282)
  have q_3 := hts _ (List.mem_cons_of_mem _ wd_290)
  have q_4 := hts _ (List.mem_cons_of_mem _ wd_284)
  have q_5 := hts _ (List.mem_cons_of_mem _ wd_295)
  refine lv_aload_n hx hb dX3_nextDigit_0 rfl (lv_at hl 0 rfl) ?_
  refine lv_iconst (v := 0) hx hb dX3_nextDigit_1 (by decide) ?_
  refine va_put (D := D) (ci := 3) (v := .int 0) (ty := .boolean) (C := RX3) (T := TX3) (N := 11) hx hb hts in_X3 tyX3 tyX3_ok nmX3 hown hK hP hD hS 0 rfl rfl 9 (by decide) q_0 (fun _ h9 => h9) rfl (by decide +kernel) rfl rfl (Nat.le_of_ble_eq_true rfl) dX3_nextDigit_2 (fun H locs hP hD hS => ?_)
  have hP : va_P D vwCl (wX3_nextDigit cI cB a_ed a_ins a_mc a_me a_ps a_by a_ks a_rg a_made v_fill v_on v_fnz v_next v_sec 0 v_mark v_fault v_word v_bF v_kF) H := hP
  have hD : va_D A (wX3_nextDigit cI cB a_ed a_ins a_mc a_me a_ps a_by a_ks a_rg a_made v_fill v_on v_fnz v_next v_sec 0 v_mark v_fault v_word v_bF v_kF) := hD
  refine lv_aload_n hx hb dX3_nextDigit_5 rfl (lv_at hl 0 rfl) ?_
  refine va_get (D := D) (ci := 3) (v := .int v_sec) (C := RX3) (T := TX3) (N := 11) hx hb hts in_X3 hown hK hP 0 rfl rfl 8 (by decide) q_1 (fun _ h9 => h9) rfl dX3_nextDigit_6 ?_
  refine lv_iconst (v := (-1)) hx hb dX3_nextDigit_9 (by decide) ?_
  refine lv_icmp_eq (tgt := 25) hx hb dX3_nextDigit_10 (by decide) (fun c_10 => ?_) (fun c_10 => ?_)
  · skip
    refine lv_aload_n hx hb dX3_nextDigit_25 rfl (lv_at hl 0 rfl) ?_
    refine va_get (D := D) (ci := 3) (v := .ref a_mc) (C := RX3) (T := TX3) (N := 11) hx hb hts in_X3 hown hK hP 0 rfl rfl 0 (by decide) q_2 (fun _ h9 => h9) rfl dX3_nextDigit_26 ?_
    refine lv_aload_n hx hb dX3_nextDigit_29 rfl (lv_at hl 0 rfl) ?_
    refine va_get (D := D) (ci := 3) (v := .int v_next) (C := RX3) (T := TX3) (N := 11) hx hb hts in_X3 hown hK hP 0 rfl rfl 7 (by decide) q_3 (fun _ h9 => h9) rfl dX3_nextDigit_30 ?_
    refine lv_iconst (v := 1) hx hb dX3_nextDigit_33 (by decide) ?_
    refine lv_iconst (v := 0) hx hb dX3_nextDigit_34 (by decide) ?_
    have hPc : va_P D vwCl (wX5_demand cI cB a_mc a_me a_ps a_by a_ks a_rg v_fault v_word v_kF) H := hP.sub [1, 2, 3, 5] rfl
    have hDc : va_D A (wX5_demand cI cB a_mc a_me a_ps a_by a_ks a_rg v_fault v_word v_kF) := hD.sub [1, 2, 3, 5] (by decide) rfl
    have hFc := va_free (wc := (wX5_demand cI cB a_mc a_me a_ps a_by a_ks a_rg v_fault v_word v_kF)) hD hS hA [1, 2, 3, 5] rfl
    refine va_callv (va_runV (As := [.int v_next, .int 1, .int 0]) (rest := []) ⟨hx, hb, hml, hown, hts⟩ (kX5_demand l D cI cB a_mc a_me a_ps a_by a_ks a_rg H.size v_fault v_word v_kF v_next 1 0) (cwV 3 hts (gd_V wd_296 wd_106 wd_107 wd_24 wd_93) rfl rfl rfl hdX5_demand ⟨Nat.le_of_ble_eq_true rfl, Nat.le_of_ble_eq_true rfl⟩) (preV_std (ci := 5) (q0 := 0) hPc hK hDc hNW rfl rfl) rfl rfl hl.1 rfl (lv_room (Nat.le_of_ble_eq_true rfl)) dX3_nextDigit_35 ⟨Nat.zero_le _, Nat.zero_le _⟩) hS (fun q _ h => hFc q h) hFc (fun u_35 t9 H1 locs ht9 hvm9 hw9 hB9 hz9 hk9 hS => ?_)
    have eu_35 : u_35 = fX5_demand v_next 1 0 v_fault v_word v_kF := hw9
    obtain ⟨hP, hD⟩ := back_std (w1 := (wX5_demand cI cB a_mc a_me a_ps a_by a_ks a_rg u_35 v_word v_kF)) (w2 := (wX3_nextDigit cI cB a_ed a_ins a_mc a_me a_ps a_by a_ks a_rg a_made v_fill v_on v_fnz v_next v_sec 0 v_mark u_35 v_word v_bF v_kF)) (wr := [(a_ed, .inr (3, [.ref a_mc, .ref a_ins, .ref a_me, .ref a_made, .int v_fill, .int v_on, .int v_fnz, .int v_next, .int v_sec, .int 0, .int v_mark])), (a_by, .inl (cB, 8192, .inl v_bF))]) hP hD [1, 2, 3, 5] [0, 4] [0, 2, 3, 4, 1, 5] rfl rfl (by decide) (by decide) hk9 hFc hB9 ht9 (by decide) rfl
    clear hB9 hk9 hz9 hvm9 ht9 hFc hPc hDc
    generalize H1 = H at hP hS ⊢
    refine lv_aload_n hx hb dX3_nextDigit_38 rfl (lv_at hl 0 rfl) ?_
    refine va_get (D := D) (ci := 3) (v := .ref a_me) (C := RX3) (T := TX3) (N := 11) hx hb hts in_X3 hown hK hP 0 rfl rfl 2 (by decide) q_4 (fun _ h9 => h9) rfl dX3_nextDigit_39 ?_
    refine lv_aload_n hx hb dX3_nextDigit_42 rfl (lv_at hl 0 rfl) ?_
    refine va_get (D := D) (ci := 3) (v := .int v_next) (C := RX3) (T := TX3) (N := 11) hx hb hts in_X3 hown hK hP 0 rfl rfl 7 (by decide) q_3 (fun _ h9 => h9) rfl dX3_nextDigit_43 ?_
    have hPc : va_P D vwCl (wX6_get cI cB a_me a_by a_ks v_bF) H := hP.sub [2, 4] rfl
    have hDc : va_D A (wX6_get cI cB a_me a_by a_ks v_bF) := hD.sub [2, 4] (by decide) rfl
    have hFc := va_free (wc := (wX6_get cI cB a_me a_by a_ks v_bF)) hD hS hA [2, 4] rfl
    refine va_calli (va_runV (As := [.int v_next]) (rest := []) ⟨hx, hb, hml, hown, hts⟩ (kX6_get l D cI cB a_me a_by a_ks H.size v_bF v_next) (cwV 1 hts (gd_V wd_293 wd_109 wd_110 wd_78 wd_102) rfl rfl rfl hdX6_get ⟨Nat.le_of_ble_eq_true rfl, Nat.le_of_ble_eq_true rfl⟩) (preV_std (ci := 6) (q0 := 0) hPc hK hDc hNW rfl rfl) rfl rfl hl.1 rfl (lv_room (Nat.le_of_ble_eq_true rfl)) dX3_nextDigit_46 ⟨Nat.zero_le _, Nat.zero_le _⟩) hS (fun q _ h => hFc q h) hFc (fun r_46 u_46 t9 H1 locs ht9 hvm9 hw9 hB9 hz9 hk9 hS => ?_)
    have er_46 : r_46 = fX6_get v_next v_bF := hw9
    obtain ⟨hP, hD⟩ := back_std (w1 := (wX6_get cI cB a_me a_by a_ks v_bF)) (w2 := (wX3_nextDigit cI cB a_ed a_ins a_mc a_me a_ps a_by a_ks a_rg a_made v_fill v_on v_fnz v_next v_sec 0 v_mark u_35 v_word v_bF v_kF)) (wr := [(a_ed, .inr (3, [.ref a_mc, .ref a_ins, .ref a_me, .ref a_made, .int v_fill, .int v_on, .int v_fnz, .int v_next, .int v_sec, .int 0, .int v_mark])), (a_mc, .inr (5, [.ref a_me, .ref a_ps, .ref a_rg, .int u_35])), (a_ps, .inr (7, [.long v_word])), (a_ks, .inl (cI, 4, .inl v_kF))]) hP hD [2, 4] [0, 1, 3, 5] [0, 1, 4, 2, 5, 3] rfl rfl (by decide) (by decide) hk9 hFc hB9 ht9 (by decide) rfl
    clear hB9 hk9 hz9 hvm9 ht9 hFc hPc hDc
    generalize H1 = H at hP hS ⊢
    refine lv_istore_n (lv' := [(1, .int r_46), (0, .ref a_ed)]) hx hb dX3_nextDigit_49 rfl hl (by decide) rfl (fun ls hl => ?_)
    refine lv_aload_n hx hb dX3_nextDigit_50 rfl (lv_at hl 1 rfl) ?_
    refine lv_aload_n hx hb dX3_nextDigit_51 rfl (lv_at hl 1 rfl) ?_
    refine va_get (D := D) (ci := 3) (v := .int v_next) (C := RX3) (T := TX3) (N := 11) hx hb hts in_X3 hown hK hP 0 rfl rfl 7 (by decide) q_3 (fun _ h9 => h9) rfl dX3_nextDigit_52 ?_
    refine lv_iconst (v := 1) hx hb dX3_nextDigit_55 (by decide) ?_
    refine lv_iadd hx hb dX3_nextDigit_56 ?_
    refine lv_ldc (v := 16777215) hx hb hown q_5 dX3_nextDigit_57 ?_
    refine lv_iand hx hb dX3_nextDigit_59 ?_
    refine lv_topi (fun x_60 ex_60 => ?_)
    refine va_put (D := D) (ci := 3) (v := .int x_60) (ty := .int) (C := RX3) (T := TX3) (N := 11) hx hb hts in_X3 tyX3 tyX3_ok nmX3 hown hK hP hD hS 0 rfl rfl 7 (by decide) q_3 (fun _ h9 => h9) rfl (by decide +kernel) rfl rfl (Nat.le_of_ble_eq_true rfl) dX3_nextDigit_60 (fun H locs hP hD hS => ?_)
    have hP : va_P D vwCl (wX3_nextDigit cI cB a_ed a_ins a_mc a_me a_ps a_by a_ks a_rg a_made v_fill v_on v_fnz x_60 v_sec 0 v_mark u_35 v_word v_bF v_kF) H := hP
    have hD : va_D A (wX3_nextDigit cI cB a_ed a_ins a_mc a_me a_ps a_by a_ks a_rg a_made v_fill v_on v_fnz x_60 v_sec 0 v_mark u_35 v_word v_bF v_kF) := hD
    refine lv_iload_n hx hb dX3_nextDigit_63 rfl (lv_at hl 0 rfl) ?_
    refine lv_iconst (v := 4) hx hb dX3_nextDigit_64 (by decide) ?_
    refine lv_ishr hx hb dX3_nextDigit_65 ?_
    refine lv_bipush (v := 9) hx hb dX3_nextDigit_66 (by decide) ?_
    have J_80 : ∀ (m_80 : Int32), m_80 = (if (r_46 >>> (4 &&& 31)) ≤ 9 then (u_35) else (let u_77 := fX5_fail 7 u_35; u_77)) → ∀ (H : Heap) (locs : List Loc), va_P D vwCl (wX3_nextDigit cI cB a_ed a_ins a_mc a_me a_ps a_by a_ks a_rg a_made v_fill v_on v_fnz x_60 v_sec 0 v_mark m_80 v_word v_bF v_kF) H → va_D A (wX3_nextDigit cI cB a_ed a_ins a_mc a_me a_ps a_by a_ks a_rg a_made v_fill v_on v_fnz x_60 v_sec 0 v_mark m_80 v_word v_bF v_kF) → va_S A s.heap H locs → ∀ (ls : Array Slot), lv_has ls 2 [(0, .ref a_ed), (1, .int r_46)] → W p l e rmX3_nextDigit s m ([.ref a_ed] : List Value).toArray below meth c H locs 0 0 (MQ below (qX3_nextDigit D cI cB a_ed a_ins a_mc a_me a_ps a_by a_ks a_rg a_made v_fill v_on v_fnz v_next v_sec v_sab v_mark v_fault v_word v_bF v_kF A) ([.ref a_ed] : List Value).toArray s 0 0 A) (F0 m 80 ls []) := by
      intro m_80 em_80 H locs hP hD hS ls hl
      try dsimp only at em_80
      refine lv_iload_n hx hb dX3_nextDigit_80 rfl (lv_at hl 1 rfl) ?_
      refine lv_bipush (v := 15) hx hb dX3_nextDigit_81 (by decide) ?_
      refine lv_iand hx hb dX3_nextDigit_83 ?_
      have hPc : va_P D vwCl (wX1_isSign cI cB  ) H := hP.sub [] rfl
      have hDc : va_D A (wX1_isSign cI cB  ) := hD.sub [] (by decide) rfl
      have hFc := va_free (wc := (wX1_isSign cI cB  )) hD hS hA [] rfl
      refine va_calli (va_runS (As := [.int (r_46 &&& 15)]) (rest := []) ⟨hx, hb, hml, hown, hts⟩ (kX1_isSign l D cI cB  H.size  (r_46 &&& 15)) (va_cwS 1 hts (gd_S wd_298 wd_137 wd_138 wd_130) rfl rfl rfl hdX1_isSign.2 ⟨Nat.le_of_ble_eq_true rfl, Nat.le_of_ble_eq_true rfl⟩) (preS_std hPc hK hDc hNW) rfl rfl hl.1 rfl (lv_room (Nat.le_of_ble_eq_true rfl)) dX3_nextDigit_84 ⟨Nat.zero_le _, Nat.zero_le _⟩) hS (fun q _ h => hFc q h) hFc (fun r_84 u_84 t9 H1 locs ht9 hvm9 hw9 hB9 hz9 hk9 hS => ?_)
      have er_84 : r_84 = fX1_isSign (r_46 &&& 15) := hw9
      have zr_84 : r_84 = 0 ∨ r_84 = 1 := by rw [er_84]; exact zX1_isSign _
      obtain ⟨hP, hD⟩ := back_std (w1 := (wX1_isSign cI cB  )) (w2 := (wX3_nextDigit cI cB a_ed a_ins a_mc a_me a_ps a_by a_ks a_rg a_made v_fill v_on v_fnz x_60 v_sec 0 v_mark m_80 v_word v_bF v_kF)) (wr := [(a_ed, .inr (3, [.ref a_mc, .ref a_ins, .ref a_me, .ref a_made, .int v_fill, .int v_on, .int v_fnz, .int x_60, .int v_sec, .int 0, .int v_mark])), (a_mc, .inr (5, [.ref a_me, .ref a_ps, .ref a_rg, .int m_80])), (a_me, .inr (6, [.ref a_by, .ref a_ks])), (a_ps, .inr (7, [.long v_word])), (a_by, .inl (cB, 8192, .inl v_bF)), (a_ks, .inl (cI, 4, .inl v_kF))]) hP hD [] [0, 1, 2, 3, 4, 5] [0, 1, 2, 3, 4, 5] rfl rfl (by decide) (by decide) hk9 hFc hB9 ht9 (by decide) rfl
      clear hB9 hk9 hz9 hvm9 ht9 hFc hPc hDc
      generalize H1 = H at hP hS ⊢
      refine lv_if_eq (tgt := 112) hx hb dX3_nextDigit_87 (by decide) (fun c_87 => ?_) (fun c_87 => ?_)
      · skip
        refine lv_aload_n hx hb dX3_nextDigit_112 rfl (lv_at hl 0 rfl) ?_
        refine lv_iload_n hx hb dX3_nextDigit_113 rfl (lv_at hl 1 rfl) ?_
        refine lv_bipush (v := 15) hx hb dX3_nextDigit_114 (by decide) ?_
        refine lv_iand hx hb dX3_nextDigit_116 ?_
        refine lv_topi (fun x_117 ex_117 => ?_)
        refine va_put (D := D) (ci := 3) (v := .int x_117) (ty := .int) (C := RX3) (T := TX3) (N := 11) hx hb hts in_X3 tyX3 tyX3_ok nmX3 hown hK hP hD hS 0 rfl rfl 8 (by decide) q_1 (fun _ h9 => h9) rfl (by decide +kernel) rfl rfl (Nat.le_of_ble_eq_true rfl) dX3_nextDigit_117 (fun H locs hP hD hS => ?_)
        have hP : va_P D vwCl (wX3_nextDigit cI cB a_ed a_ins a_mc a_me a_ps a_by a_ks a_rg a_made v_fill v_on v_fnz x_60 x_117 0 v_mark m_80 v_word v_bF v_kF) H := hP
        have hD : va_D A (wX3_nextDigit cI cB a_ed a_ins a_mc a_me a_ps a_by a_ks a_rg a_made v_fill v_on v_fnz x_60 x_117 0 v_mark m_80 v_word v_bF v_kF) := hD
        refine lv_iload_n hx hb dX3_nextDigit_120 rfl (lv_at hl 1 rfl) ?_
        refine lv_iconst (v := 4) hx hb dX3_nextDigit_121 (by decide) ?_
        refine lv_ishr hx hb dX3_nextDigit_122 ?_
        have hf9 : ((r_46 >>> (4 &&& 31)), (x_60, x_117, 0, m_80)) = fX3_nextDigit v_next v_sec v_sab v_fault v_word v_bF v_kF := by subst ex_117; subst ex_60; simp only [fX3_nextDigit, ← eu_35, ← er_46, ← em_80, ← er_84]; (try simp only [if_pos c_10, if_pos c_87])
        exact W.iret hx hb hr (fun t9 ht9 hW9 => ⟨⟨(r_46 >>> (4 &&& 31)), (x_60, x_117, 0, m_80), rfl, ⟨by rw [← hf9], by rw [← hf9]⟩, ⟨by rw [ht9]; exact hP, va_K.moved hW9.alike hK, hD⟩⟩, hS.F ht9⟩) hS.2.2 dX3_nextDigit_123
      · skip
        refine lv_aload_n hx hb dX3_nextDigit_90 rfl (lv_at hl 0 rfl) ?_
        refine lv_iload_n hx hb dX3_nextDigit_91 rfl (lv_at hl 1 rfl) ?_
        refine lv_bipush (v := 15) hx hb dX3_nextDigit_92 (by decide) ?_
        refine lv_iand hx hb dX3_nextDigit_94 ?_
        have hPc : va_P D vwCl (wX1_isSignBelow cI cB  ) H := hP.sub [] rfl
        have hDc : va_D A (wX1_isSignBelow cI cB  ) := hD.sub [] (by decide) rfl
        have hFc := va_free (wc := (wX1_isSignBelow cI cB  )) hD hS hA [] rfl
        refine va_calli (va_runS (As := [.int (r_46 &&& 15)]) (rest := [.ref a_ed]) ⟨hx, hb, hml, hown, hts⟩ (kX1_isSignBelow l D cI cB  H.size  (r_46 &&& 15)) (va_cwS 1 hts (gd_S wd_299 wd_140 wd_138 wd_131) rfl rfl rfl hdX1_isSignBelow.2 ⟨Nat.le_of_ble_eq_true rfl, Nat.le_of_ble_eq_true rfl⟩) (preS_std hPc hK hDc hNW) rfl rfl hl.1 rfl (lv_room (Nat.le_of_ble_eq_true rfl)) dX3_nextDigit_95 ⟨Nat.zero_le _, Nat.zero_le _⟩) hS (fun q _ h => hFc q h) hFc (fun r_95 u_95 t9 H1 locs ht9 hvm9 hw9 hB9 hz9 hk9 hS => ?_)
        have er_95 : r_95 = fX1_isSignBelow (r_46 &&& 15) := hw9
        have zr_95 : r_95 = 0 ∨ r_95 = 1 := by rw [er_95]; exact zX1_isSignBelow _
        obtain ⟨hP, hD⟩ := back_std (w1 := (wX1_isSignBelow cI cB  )) (w2 := (wX3_nextDigit cI cB a_ed a_ins a_mc a_me a_ps a_by a_ks a_rg a_made v_fill v_on v_fnz x_60 v_sec 0 v_mark m_80 v_word v_bF v_kF)) (wr := [(a_ed, .inr (3, [.ref a_mc, .ref a_ins, .ref a_me, .ref a_made, .int v_fill, .int v_on, .int v_fnz, .int x_60, .int v_sec, .int 0, .int v_mark])), (a_mc, .inr (5, [.ref a_me, .ref a_ps, .ref a_rg, .int m_80])), (a_me, .inr (6, [.ref a_by, .ref a_ks])), (a_ps, .inr (7, [.long v_word])), (a_by, .inl (cB, 8192, .inl v_bF)), (a_ks, .inl (cI, 4, .inl v_kF))]) hP hD [] [0, 1, 2, 3, 4, 5] [0, 1, 2, 3, 4, 5] rfl rfl (by decide) (by decide) hk9 hFc hB9 ht9 (by decide) rfl
        clear hB9 hk9 hz9 hvm9 ht9 hFc hPc hDc
        generalize H1 = H at hP hS ⊢
        have J_106 : ∀ (m_106 : Int32), m_106 = (if r_95 = 0 then (1) else (0)) → ∀ (H : Heap) (locs : List Loc), va_P D vwCl (wX3_nextDigit cI cB a_ed a_ins a_mc a_me a_ps a_by a_ks a_rg a_made v_fill v_on v_fnz x_60 v_sec 0 v_mark m_80 v_word v_bF v_kF) H → va_D A (wX3_nextDigit cI cB a_ed a_ins a_mc a_me a_ps a_by a_ks a_rg a_made v_fill v_on v_fnz x_60 v_sec 0 v_mark m_80 v_word v_bF v_kF) → va_S A s.heap H locs → ∀ (ls : Array Slot), lv_has ls 2 [(0, .ref a_ed), (1, .int r_46)] → W p l e rmX3_nextDigit s m ([.ref a_ed] : List Value).toArray below meth c H locs 0 0 (MQ below (qX3_nextDigit D cI cB a_ed a_ins a_mc a_me a_ps a_by a_ks a_rg a_made v_fill v_on v_fnz v_next v_sec v_sab v_mark v_fault v_word v_bF v_kF A) ([.ref a_ed] : List Value).toArray s 0 0 A) (F0 m 106 ls [.int m_106, .ref a_ed]) := by
          intro m_106 em_106 H locs hP hD hS ls hl
          try dsimp only at em_106
          have zm_106_0 : m_106 = 0 ∨ m_106 = 1 := by rw [em_106]; (try dsimp only); (repeat' split) <;> first | exact Or.inl rfl | exact Or.inr rfl
          refine va_put (D := D) (ci := 3) (v := .int m_106) (ty := .boolean) (C := RX3) (T := TX3) (N := 11) hx hb hts in_X3 tyX3 tyX3_ok nmX3 hown hK hP hD hS 0 rfl rfl 9 (by decide) q_0 (fun _ h9 => h9) rfl (by decide +kernel) (zb_narrow (by with_reducible assumption)) (zb_fits (by with_reducible assumption)) (Nat.le_of_ble_eq_true rfl) dX3_nextDigit_106 (fun H locs hP hD hS => ?_)
          have hP : va_P D vwCl (wX3_nextDigit cI cB a_ed a_ins a_mc a_me a_ps a_by a_ks a_rg a_made v_fill v_on v_fnz x_60 v_sec m_106 v_mark m_80 v_word v_bF v_kF) H := hP
          have hD : va_D A (wX3_nextDigit cI cB a_ed a_ins a_mc a_me a_ps a_by a_ks a_rg a_made v_fill v_on v_fnz x_60 v_sec m_106 v_mark m_80 v_word v_bF v_kF) := hD
          refine lv_goto (tgt := 120) hx hb dX3_nextDigit_109 (by decide) ?_
          refine lv_iload_n hx hb dX3_nextDigit_120 rfl (lv_at hl 1 rfl) ?_
          refine lv_iconst (v := 4) hx hb dX3_nextDigit_121 (by decide) ?_
          refine lv_ishr hx hb dX3_nextDigit_122 ?_
          have hf9 : ((r_46 >>> (4 &&& 31)), (x_60, v_sec, m_106, m_80)) = fX3_nextDigit v_next v_sec v_sab v_fault v_word v_bF v_kF := by subst ex_60; simp only [fX3_nextDigit, ← eu_35, ← er_46, ← em_80, ← er_84, ← er_95, ← em_106]; (try simp only [if_pos c_10, if_neg c_87])
          exact W.iret hx hb hr (fun t9 ht9 hW9 => ⟨⟨(r_46 >>> (4 &&& 31)), (x_60, v_sec, m_106, m_80), rfl, ⟨by rw [← hf9], by rw [← hf9]⟩, ⟨by rw [ht9]; exact hP, va_K.moved hW9.alike hK, hD⟩⟩, hS.F ht9⟩) hS.2.2 dX3_nextDigit_123
        refine lv_if_ne (tgt := 105) hx hb dX3_nextDigit_98 (by decide) (fun c_98 => ?_) (fun c_98 => ?_)
        · skip
          refine lv_iconst (v := 0) hx hb dX3_nextDigit_105 (by decide) ?_
          exact J_106 0 (by (try simp only [if_neg c_98])) _ _ hP hD hS ls (lv_sub hl [0, 1] rfl)
        · skip
          refine lv_iconst (v := 1) hx hb dX3_nextDigit_101 (by decide) ?_
          refine lv_goto (tgt := 106) hx hb dX3_nextDigit_102 (by decide) ?_
          exact J_106 1 (by (try simp only [if_pos c_98])) _ _ hP hD hS ls (lv_sub hl [0, 1] rfl)
    refine lv_icmp_le (tgt := 80) hx hb dX3_nextDigit_68 (by decide) (fun c_68 => ?_) (fun c_68 => ?_)
    · skip
      exact J_80 u_35 (by (try simp only [if_pos c_68])) _ _ hP hD hS ls (lv_sub hl [1, 0] rfl)
    · skip
      refine lv_aload_n hx hb dX3_nextDigit_71 rfl (lv_at hl 1 rfl) ?_
      refine va_get (D := D) (ci := 3) (v := .ref a_mc) (C := RX3) (T := TX3) (N := 11) hx hb hts in_X3 hown hK hP 0 rfl rfl 0 (by decide) q_2 (fun _ h9 => h9) rfl dX3_nextDigit_72 ?_
      refine lv_bipush (v := 7) hx hb dX3_nextDigit_75 (by decide) ?_
      have hPc : va_P D vwCl (wX5_fail cI cB a_mc a_me a_ps a_rg u_35) H := hP.sub [1] rfl
      have hDc : va_D A (wX5_fail cI cB a_mc a_me a_ps a_rg u_35) := hD.sub [1] (by decide) rfl
      have hFc := va_free (wc := (wX5_fail cI cB a_mc a_me a_ps a_rg u_35)) hD hS hA [1] rfl
      refine va_callv (va_runV (As := [.int 7]) (rest := []) ⟨hx, hb, hml, hown, hts⟩ (kX5_fail l D cI cB a_mc a_me a_ps a_rg H.size u_35 7) (cwV 1 hts (gd_V wd_297 wd_54 wd_55 wd_24 wd_46) rfl rfl rfl hdX5_fail ⟨Nat.le_of_ble_eq_true rfl, Nat.le_of_ble_eq_true rfl⟩) (preV_std (ci := 5) (q0 := 0) hPc hK hDc hNW rfl rfl) rfl rfl hl.1 rfl (lv_room (Nat.le_of_ble_eq_true rfl)) dX3_nextDigit_77 ⟨Nat.zero_le _, Nat.zero_le _⟩) hS (fun q _ h => hFc q h) hFc (fun u_77 t9 H1 locs ht9 hvm9 hw9 hB9 hz9 hk9 hS => ?_)
      have eu_77 : u_77 = fX5_fail 7 u_35 := hw9
      obtain ⟨hP, hD⟩ := back_std (w1 := (wX5_fail cI cB a_mc a_me a_ps a_rg u_77)) (w2 := (wX3_nextDigit cI cB a_ed a_ins a_mc a_me a_ps a_by a_ks a_rg a_made v_fill v_on v_fnz x_60 v_sec 0 v_mark u_77 v_word v_bF v_kF)) (wr := [(a_ed, .inr (3, [.ref a_mc, .ref a_ins, .ref a_me, .ref a_made, .int v_fill, .int v_on, .int v_fnz, .int x_60, .int v_sec, .int 0, .int v_mark])), (a_me, .inr (6, [.ref a_by, .ref a_ks])), (a_ps, .inr (7, [.long v_word])), (a_by, .inl (cB, 8192, .inl v_bF)), (a_ks, .inl (cI, 4, .inl v_kF))]) hP hD [1] [0, 2, 3, 4, 5] [0, 5, 1, 2, 3, 4] rfl rfl (by decide) (by decide) hk9 hFc hB9 ht9 (by decide) rfl
      clear hB9 hk9 hz9 hvm9 ht9 hFc hPc hDc
      generalize H1 = H at hP hS ⊢
      exact J_80 u_77 (by (try simp only [← eu_77]); (try simp only [if_neg c_68])) _ _ hP hD hS ls (lv_sub hl [1, 0] rfl)
  · skip
    refine lv_aload_n hx hb dX3_nextDigit_13 rfl (lv_at hl 0 rfl) ?_
    refine va_get (D := D) (ci := 3) (v := .int v_sec) (C := RX3) (T := TX3) (N := 11) hx hb hts in_X3 hown hK hP 0 rfl rfl 8 (by decide) q_1 (fun _ h9 => h9) rfl dX3_nextDigit_14 ?_
    refine lv_istore_n (lv' := [(1, .int v_sec), (0, .ref a_ed)]) hx hb dX3_nextDigit_17 rfl hl (by decide) rfl (fun ls hl => ?_)
    refine lv_aload_n hx hb dX3_nextDigit_18 rfl (lv_at hl 1 rfl) ?_
    refine lv_iconst (v := (-1)) hx hb dX3_nextDigit_19 (by decide) ?_
    refine va_put (D := D) (ci := 3) (v := .int (-1)) (ty := .int) (C := RX3) (T := TX3) (N := 11) hx hb hts in_X3 tyX3 tyX3_ok nmX3 hown hK hP hD hS 0 rfl rfl 8 (by decide) q_1 (fun _ h9 => h9) rfl (by decide +kernel) rfl rfl (Nat.le_of_ble_eq_true rfl) dX3_nextDigit_20 (fun H locs hP hD hS => ?_)
    have hP : va_P D vwCl (wX3_nextDigit cI cB a_ed a_ins a_mc a_me a_ps a_by a_ks a_rg a_made v_fill v_on v_fnz v_next (-1) 0 v_mark v_fault v_word v_bF v_kF) H := hP
    have hD : va_D A (wX3_nextDigit cI cB a_ed a_ins a_mc a_me a_ps a_by a_ks a_rg a_made v_fill v_on v_fnz v_next (-1) 0 v_mark v_fault v_word v_bF v_kF) := hD
    refine lv_iload_n hx hb dX3_nextDigit_23 rfl (lv_at hl 0 rfl) ?_
    have hf9 : (v_sec, (v_next, (-1), 0, v_fault)) = fX3_nextDigit v_next v_sec v_sab v_fault v_word v_bF v_kF := by simp only [fX3_nextDigit]; (try simp only [if_neg c_10])
    exact W.iret hx hb hr (fun t9 ht9 hW9 => ⟨⟨v_sec, (v_next, (-1), 0, v_fault), rfl, ⟨by rw [← hf9], by rw [← hf9]⟩, ⟨by rw [ht9]; exact hP, va_K.moved hW9.alike hK, hD⟩⟩, hS.F ht9⟩) hS.2.2 dX3_nextDigit_24
theorem hdX3_nextDigit : yX3_nextDigit.cls = RX3 ∧ yX3_nextDigit.cls ≠ "java/lang/invoke/MethodHandle" ∧ yX3_nextDigit.cls ≠ "java/lang/invoke/VarHandle" ∧ (parseMethodDescriptor yX3_nextDigit.desc).map (fun d => d.parameters.length) = some 0 := by decide +kernel
noncomputable def fX3_withDigit (x0 : Int32) (x1 : Int32) (x2 : Int32) (v_fill : Int32) (v_on : Int32) (v_fnz : Int32) (v_sab : Int32) (v_mark : Int32) : (Int32 × (Int32 × Int32 × Int32)) :=
  let m_36 : Int32 := (if v_on = 0 then (if x1 = 33 then (if v_sab = 0 then (1) else (0)) else (if x2 = 0 then (0) else (if v_sab = 0 then (1) else (0)))) else (if v_sab = 0 then (1) else (0)))
  let m_56 : Int32 := (if v_fnz = 0 then (if x2 = 0 then (0) else (1)) else (1))
  if v_on = 0 then (if x2 = 0 then ((v_fill, (m_36, m_56, v_mark))) else (((240 ||| x2), (m_36, m_56, x0)))) else (((240 ||| x2), (m_36, m_56, v_mark)))
abbrev wX3_withDigit (cI cB : ClassId) (a_ed a_ins a_mc a_me a_made : Nat) (v_fill : Int32) (v_on : Int32) (v_fnz : Int32) (v_next : Int32) (v_sec : Int32) (v_sab : Int32) (v_mark : Int32) : va_W := [(a_ed, .inr (3, [.ref a_mc, .ref a_ins, .ref a_me, .ref a_made, .int v_fill, .int v_on, .int v_fnz, .int v_next, .int v_sec, .int v_sab, .int v_mark]))]
abbrev rmX3_withDigit : Room := { frames := 0, cells := 0, slots := 0, locals := 0 }
abbrev qX3_withDigit (D : va_G) (cI cB : ClassId) (a_ed a_ins a_mc a_me a_made : Nat) (v_fill : Int32) (v_on : Int32) (v_fnz : Int32) (v_next : Int32) (v_sec : Int32) (v_sab : Int32) (v_mark : Int32) (x0 : Int32) (x1 : Int32) (x2 : Int32) : (Nat → Prop) → Array Value → State → Outcome → State → Prop := fun A9 => va_Qi (fun (r9 : Int32) (u9 : (Int32 × Int32 × Int32)) => r9 = (fX3_withDigit x0 x1 x2 v_fill v_on v_fnz v_sab v_mark).1 ∧ u9 = (fX3_withDigit x0 x1 x2 v_fill v_on v_fnz v_sab v_mark).2) (fun u9 t9 => atW D (TYS cI cB) A9 (wX3_withDigit cI cB a_ed a_ins a_mc a_me a_made v_fill u9.1 u9.2.1 v_next v_sec v_sab u9.2.2) t9) A9
set_option maxHeartbeats 4000000 in
set_option maxRecDepth 100000 in
theorem kX3_withDigit (l : Launch) (D : va_G) (cI cB : ClassId) (a_ed a_ins a_mc a_me a_made : Nat) (sz : Nat) (v_fill : Int32) (v_on : Int32) (v_fnz : Int32) (v_next : Int32) (v_sec : Int32) (v_sab : Int32) (v_mark : Int32) (x0 : Int32) (x1 : Int32) (x2 : Int32) : MetW l yX3_withDigit (WK yX3_withDigit cX3_withDigit 5 (some .int)) rmX3_withDigit D (TYS cI cB) (wX3_withDigit cI cB a_ed a_ins a_mc a_me a_made v_fill v_on v_fnz v_next v_sec v_sab v_mark) sz [.ref a_ed, .int x0, .int x1, .int x2] (qX3_withDigit D cI cB a_ed a_ins a_mc a_me a_made v_fill v_on v_fnz v_next v_sec v_sab v_mark x0 x1 x2) 0 0 := by
  refine met_std (by decide) rfl (Nat.le_of_ble_eq_true rfl) ?_
  intro p e s m below meth c A ls H hx hb hr hml hown hts hlocks hA hP hK hD hS hNW hl
  have hl : lv_has ls 5 [(0, .ref a_ed), (1, .int x0), (2, .int x1), (3, .int x2)] := hl
  have q_0 := hts _ (List.mem_cons_of_mem _ wd_288)
  have q_1 := hts _ (List.mem_cons_of_mem _ wd_294)
  have q_2 := hts _ (List.mem_cons_of_mem _ wd_289)
  have q_3 := hts _ (List.mem_cons_of_mem _ wd_292)
  have q_4 := hts _ (List.mem_cons_of_mem _ wd_287)
  refine lv_aload_n hx hb dX3_withDigit_0 rfl (lv_at hl 0 rfl) ?_
  refine va_get (D := D) (ci := 3) (v := .int v_on) (C := RX3) (T := TX3) (N := 11) hx hb hts in_X3 hown hK hP 0 rfl rfl 5 (by decide) q_0 (fun _ h9 => h9) rfl dX3_withDigit_1 ?_
  refine lv_istore (lv' := [(4, .int v_on), (0, .ref a_ed), (1, .int x0), (2, .int x1), (3, .int x2)]) hx hb dX3_withDigit_4 hl (by decide) rfl (fun ls hl => ?_)
  refine lv_aload_n hx hb dX3_withDigit_6 rfl (lv_at hl 1 rfl) ?_
  refine lv_aload_n hx hb dX3_withDigit_7 rfl (lv_at hl 1 rfl) ?_
  refine va_get (D := D) (ci := 3) (v := .int v_on) (C := RX3) (T := TX3) (N := 11) hx hb hts in_X3 hown hK hP 0 rfl rfl 5 (by decide) q_0 (fun _ h9 => h9) rfl dX3_withDigit_8 ?_
  have J_36 : ∀ (m_36 : Int32), m_36 = (if v_on = 0 then (if x1 = 33 then (if v_sab = 0 then (1) else (0)) else (if x2 = 0 then (0) else (if v_sab = 0 then (1) else (0)))) else (if v_sab = 0 then (1) else (0))) → ∀ (H : Heap) (locs : List Loc), va_P D vwCl (wX3_withDigit cI cB a_ed a_ins a_mc a_me a_made v_fill v_on v_fnz v_next v_sec v_sab v_mark) H → va_D A (wX3_withDigit cI cB a_ed a_ins a_mc a_me a_made v_fill v_on v_fnz v_next v_sec v_sab v_mark) → va_S A s.heap H locs → ∀ (ls : Array Slot), lv_has ls 5 [(0, .ref a_ed), (1, .int x0), (2, .int x1), (3, .int x2), (4, .int v_on)] → W p l e rmX3_withDigit s m ([.ref a_ed, .int x0, .int x1, .int x2] : List Value).toArray below meth c H locs 0 0 (MQ below (qX3_withDigit D cI cB a_ed a_ins a_mc a_me a_made v_fill v_on v_fnz v_next v_sec v_sab v_mark x0 x1 x2 A) ([.ref a_ed, .int x0, .int x1, .int x2] : List Value).toArray s 0 0 A) (F0 m 36 ls [.int m_36, .ref a_ed]) := by
    intro m_36 em_36 H locs hP hD hS ls hl
    try dsimp only at em_36
    have zm_36_0 : m_36 = 0 ∨ m_36 = 1 := by rw [em_36]; (try dsimp only); (repeat' split) <;> first | exact Or.inl rfl | exact Or.inr rfl
    refine va_put (D := D) (ci := 3) (v := .int m_36) (ty := .boolean) (C := RX3) (T := TX3) (N := 11) hx hb hts in_X3 tyX3 tyX3_ok nmX3 hown hK hP hD hS 0 rfl rfl 5 (by decide) q_0 (fun _ h9 => h9) rfl (by decide +kernel) (zb_narrow (by with_reducible assumption)) (zb_fits (by with_reducible assumption)) (Nat.le_of_ble_eq_true rfl) dX3_withDigit_36 (fun H locs hP hD hS => ?_)
    have hP : va_P D vwCl (wX3_withDigit cI cB a_ed a_ins a_mc a_me a_made v_fill m_36 v_fnz v_next v_sec v_sab v_mark) H := hP
    have hD : va_D A (wX3_withDigit cI cB a_ed a_ins a_mc a_me a_made v_fill m_36 v_fnz v_next v_sec v_sab v_mark) := hD
    refine lv_aload_n hx hb dX3_withDigit_39 rfl (lv_at hl 0 rfl) ?_
    refine lv_aload_n hx hb dX3_withDigit_40 rfl (lv_at hl 0 rfl) ?_
    refine va_get (D := D) (ci := 3) (v := .int v_fnz) (C := RX3) (T := TX3) (N := 11) hx hb hts in_X3 hown hK hP 0 rfl rfl 6 (by decide) q_2 (fun _ h9 => h9) rfl dX3_withDigit_41 ?_
    have J_56 : ∀ (m_56 : Int32), m_56 = (if v_fnz = 0 then (if x2 = 0 then (0) else (1)) else (1)) → ∀ (H : Heap) (locs : List Loc), va_P D vwCl (wX3_withDigit cI cB a_ed a_ins a_mc a_me a_made v_fill m_36 v_fnz v_next v_sec v_sab v_mark) H → va_D A (wX3_withDigit cI cB a_ed a_ins a_mc a_me a_made v_fill m_36 v_fnz v_next v_sec v_sab v_mark) → va_S A s.heap H locs → ∀ (ls : Array Slot), lv_has ls 5 [(0, .ref a_ed), (1, .int x0), (2, .int x1), (3, .int x2), (4, .int v_on)] → W p l e rmX3_withDigit s m ([.ref a_ed, .int x0, .int x1, .int x2] : List Value).toArray below meth c H locs 0 0 (MQ below (qX3_withDigit D cI cB a_ed a_ins a_mc a_me a_made v_fill v_on v_fnz v_next v_sec v_sab v_mark x0 x1 x2 A) ([.ref a_ed, .int x0, .int x1, .int x2] : List Value).toArray s 0 0 A) (F0 m 56 ls [.int m_56, .ref a_ed]) := by
      intro m_56 em_56 H locs hP hD hS ls hl
      try dsimp only at em_56
      have zm_56_0 : m_56 = 0 ∨ m_56 = 1 := by rw [em_56]; (try dsimp only); (repeat' split) <;> first | exact Or.inl rfl | exact Or.inr rfl
      refine va_put (D := D) (ci := 3) (v := .int m_56) (ty := .boolean) (C := RX3) (T := TX3) (N := 11) hx hb hts in_X3 tyX3 tyX3_ok nmX3 hown hK hP hD hS 0 rfl rfl 6 (by decide) q_2 (fun _ h9 => h9) rfl (by decide +kernel) (zb_narrow (by with_reducible assumption)) (zb_fits (by with_reducible assumption)) (Nat.le_of_ble_eq_true rfl) dX3_withDigit_56 (fun H locs hP hD hS => ?_)
      have hP : va_P D vwCl (wX3_withDigit cI cB a_ed a_ins a_mc a_me a_made v_fill m_36 m_56 v_next v_sec v_sab v_mark) H := hP
      have hD : va_D A (wX3_withDigit cI cB a_ed a_ins a_mc a_me a_made v_fill m_36 m_56 v_next v_sec v_sab v_mark) := hD
      refine lv_iload hx hb dX3_withDigit_59 (lv_at hl 4 rfl) ?_
      refine lv_if_ne (tgt := 73) hx hb dX3_withDigit_61 (by decide) (fun c_61 => ?_) (fun c_61 => ?_)
      · skip
        refine lv_iload hx hb dX3_withDigit_73 (lv_at hl 4 rfl) ?_
        refine lv_if_ne (tgt := 83) hx hb dX3_withDigit_75 (by decide) (fun c_75 => ?_) (fun c_75 => ?_)
        · skip
          refine lv_sipush (v := 240) hx hb dX3_withDigit_83 (by decide) ?_
          refine lv_iload_n hx hb dX3_withDigit_86 rfl (lv_at hl 3 rfl) ?_
          refine lv_ior hx hb dX3_withDigit_87 ?_
          have hf9 : ((240 ||| x2), (m_36, m_56, v_mark)) = fX3_withDigit x0 x1 x2 v_fill v_on v_fnz v_sab v_mark := by simp only [fX3_withDigit, ← em_36, ← em_56]; (try simp only [if_neg c_61])
          exact W.iret hx hb hr (fun t9 ht9 hW9 => ⟨⟨(240 ||| x2), (m_36, m_56, v_mark), rfl, ⟨by rw [← hf9], by rw [← hf9]⟩, ⟨by rw [ht9]; exact hP, va_K.moved hW9.alike hK, hD⟩⟩, hS.F ht9⟩) hS.2.2 dX3_withDigit_88
        · skip
          exact absurd c_75 c_61
      · skip
        refine lv_iload_n hx hb dX3_withDigit_64 rfl (lv_at hl 3 rfl) ?_
        refine lv_if_ne (tgt := 73) hx hb dX3_withDigit_65 (by decide) (fun c_65 => ?_) (fun c_65 => ?_)
        · skip
          refine lv_iload hx hb dX3_withDigit_73 (lv_at hl 4 rfl) ?_
          refine lv_if_ne (tgt := 83) hx hb dX3_withDigit_75 (by decide) (fun c_75 => ?_) (fun c_75 => ?_)
          · skip
            exact absurd c_61 c_75
          · skip
            refine lv_aload_n hx hb dX3_withDigit_78 rfl (lv_at hl 0 rfl) ?_
            refine lv_iload_n hx hb dX3_withDigit_79 rfl (lv_at hl 1 rfl) ?_
            refine va_put (D := D) (ci := 3) (v := .int x0) (ty := .int) (C := RX3) (T := TX3) (N := 11) hx hb hts in_X3 tyX3 tyX3_ok nmX3 hown hK hP hD hS 0 rfl rfl 10 (by decide) q_3 (fun _ h9 => h9) rfl (by decide +kernel) rfl rfl (Nat.le_of_ble_eq_true rfl) dX3_withDigit_80 (fun H locs hP hD hS => ?_)
            have hP : va_P D vwCl (wX3_withDigit cI cB a_ed a_ins a_mc a_me a_made v_fill m_36 m_56 v_next v_sec v_sab x0) H := hP
            have hD : va_D A (wX3_withDigit cI cB a_ed a_ins a_mc a_me a_made v_fill m_36 m_56 v_next v_sec v_sab x0) := hD
            refine lv_sipush (v := 240) hx hb dX3_withDigit_83 (by decide) ?_
            refine lv_iload_n hx hb dX3_withDigit_86 rfl (lv_at hl 3 rfl) ?_
            refine lv_ior hx hb dX3_withDigit_87 ?_
            have hf9 : ((240 ||| x2), (m_36, m_56, x0)) = fX3_withDigit x0 x1 x2 v_fill v_on v_fnz v_sab v_mark := by simp only [fX3_withDigit, ← em_36, ← em_56]; (try simp only [if_pos c_61, if_neg c_65])
            exact W.iret hx hb hr (fun t9 ht9 hW9 => ⟨⟨(240 ||| x2), (m_36, m_56, x0), rfl, ⟨by rw [← hf9], by rw [← hf9]⟩, ⟨by rw [ht9]; exact hP, va_K.moved hW9.alike hK, hD⟩⟩, hS.F ht9⟩) hS.2.2 dX3_withDigit_88
        · skip
          refine lv_aload_n hx hb dX3_withDigit_68 rfl (lv_at hl 0 rfl) ?_
          refine va_get (D := D) (ci := 3) (v := .int v_fill) (C := RX3) (T := TX3) (N := 11) hx hb hts in_X3 hown hK hP 0 rfl rfl 4 (by decide) q_4 (fun _ h9 => h9) rfl dX3_withDigit_69 ?_
          have hf9 : (v_fill, (m_36, m_56, v_mark)) = fX3_withDigit x0 x1 x2 v_fill v_on v_fnz v_sab v_mark := by simp only [fX3_withDigit, ← em_36, ← em_56]; (try simp only [if_pos c_61, if_pos c_65])
          exact W.iret hx hb hr (fun t9 ht9 hW9 => ⟨⟨v_fill, (m_36, m_56, v_mark), rfl, ⟨by rw [← hf9], by rw [← hf9]⟩, ⟨by rw [ht9]; exact hP, va_K.moved hW9.alike hK, hD⟩⟩, hS.F ht9⟩) hS.2.2 dX3_withDigit_72
    refine lv_if_ne (tgt := 51) hx hb dX3_withDigit_44 (by decide) (fun c_44 => ?_) (fun c_44 => ?_)
    · skip
      refine lv_iconst (v := 1) hx hb dX3_withDigit_51 (by decide) ?_
      refine lv_goto (tgt := 56) hx hb dX3_withDigit_52 (by decide) ?_
      exact J_56 1 (by (try simp only [if_neg c_44])) _ _ hP hD hS ls (lv_sub hl [0, 1, 2, 3, 4] rfl)
    · skip
      refine lv_iload_n hx hb dX3_withDigit_47 rfl (lv_at hl 3 rfl) ?_
      refine lv_if_eq (tgt := 55) hx hb dX3_withDigit_48 (by decide) (fun c_48 => ?_) (fun c_48 => ?_)
      · skip
        refine lv_iconst (v := 0) hx hb dX3_withDigit_55 (by decide) ?_
        exact J_56 0 (by (try simp only [if_pos c_44, if_pos c_48])) _ _ hP hD hS ls (lv_sub hl [0, 1, 2, 3, 4] rfl)
      · skip
        refine lv_iconst (v := 1) hx hb dX3_withDigit_51 (by decide) ?_
        refine lv_goto (tgt := 56) hx hb dX3_withDigit_52 (by decide) ?_
        exact J_56 1 (by (try simp only [if_pos c_44, if_neg c_48])) _ _ hP hD hS ls (lv_sub hl [0, 1, 2, 3, 4] rfl)
  refine lv_if_ne (tgt := 24) hx hb dX3_withDigit_11 (by decide) (fun c_11 => ?_) (fun c_11 => ?_)
  · skip
    refine lv_aload_n hx hb dX3_withDigit_24 rfl (lv_at hl 1 rfl) ?_
    refine va_get (D := D) (ci := 3) (v := .int v_sab) (C := RX3) (T := TX3) (N := 11) hx hb hts in_X3 hown hK hP 0 rfl rfl 9 (by decide) q_1 (fun _ h9 => h9) rfl dX3_withDigit_25 ?_
    refine lv_if_ne (tgt := 35) hx hb dX3_withDigit_28 (by decide) (fun c_28 => ?_) (fun c_28 => ?_)
    · skip
      refine lv_iconst (v := 0) hx hb dX3_withDigit_35 (by decide) ?_
      exact J_36 0 (by (try simp only [if_neg c_11, if_neg c_28])) _ _ hP hD hS ls (lv_sub hl [1, 2, 3, 4, 0] rfl)
    · skip
      refine lv_iconst (v := 1) hx hb dX3_withDigit_31 (by decide) ?_
      refine lv_goto (tgt := 36) hx hb dX3_withDigit_32 (by decide) ?_
      exact J_36 1 (by (try simp only [if_neg c_11, if_pos c_28])) _ _ hP hD hS ls (lv_sub hl [1, 2, 3, 4, 0] rfl)
  · skip
    refine lv_iload_n hx hb dX3_withDigit_14 rfl (lv_at hl 3 rfl) ?_
    refine lv_bipush (v := 33) hx hb dX3_withDigit_15 (by decide) ?_
    refine lv_icmp_eq (tgt := 24) hx hb dX3_withDigit_17 (by decide) (fun c_17 => ?_) (fun c_17 => ?_)
    · skip
      refine lv_aload_n hx hb dX3_withDigit_24 rfl (lv_at hl 1 rfl) ?_
      refine va_get (D := D) (ci := 3) (v := .int v_sab) (C := RX3) (T := TX3) (N := 11) hx hb hts in_X3 hown hK hP 0 rfl rfl 9 (by decide) q_1 (fun _ h9 => h9) rfl dX3_withDigit_25 ?_
      refine lv_if_ne (tgt := 35) hx hb dX3_withDigit_28 (by decide) (fun c_28 => ?_) (fun c_28 => ?_)
      · skip
        refine lv_iconst (v := 0) hx hb dX3_withDigit_35 (by decide) ?_
        exact J_36 0 (by (try simp only [if_pos c_11, if_pos c_17, if_neg c_28])) _ _ hP hD hS ls (lv_sub hl [1, 2, 3, 4, 0] rfl)
      · skip
        refine lv_iconst (v := 1) hx hb dX3_withDigit_31 (by decide) ?_
        refine lv_goto (tgt := 36) hx hb dX3_withDigit_32 (by decide) ?_
        exact J_36 1 (by (try simp only [if_pos c_11, if_pos c_17, if_pos c_28])) _ _ hP hD hS ls (lv_sub hl [1, 2, 3, 4, 0] rfl)
    · skip
      refine lv_iload_n hx hb dX3_withDigit_20 rfl (lv_at hl 4 rfl) ?_
      refine lv_if_eq (tgt := 35) hx hb dX3_withDigit_21 (by decide) (fun c_21 => ?_) (fun c_21 => ?_)
      · skip
        refine lv_iconst (v := 0) hx hb dX3_withDigit_35 (by decide) ?_
        exact J_36 0 (by (try simp only [if_pos c_11, if_neg c_17, if_pos c_21])) _ _ hP hD hS ls (lv_sub hl [1, 2, 3, 4, 0] rfl)
      · skip
        refine lv_aload_n hx hb dX3_withDigit_24 rfl (lv_at hl 1 rfl) ?_
        refine va_get (D := D) (ci := 3) (v := .int v_sab) (C := RX3) (T := TX3) (N := 11) hx hb hts in_X3 hown hK hP 0 rfl rfl 9 (by decide) q_1 (fun _ h9 => h9) rfl dX3_withDigit_25 ?_
        refine lv_if_ne (tgt := 35) hx hb dX3_withDigit_28 (by decide) (fun c_28 => ?_) (fun c_28 => ?_)
        · skip
          refine lv_iconst (v := 0) hx hb dX3_withDigit_35 (by decide) ?_
          exact J_36 0 (by (try simp only [if_pos c_11, if_neg c_17, if_neg c_21, if_neg c_28])) _ _ hP hD hS ls (lv_sub hl [1, 2, 3, 4, 0] rfl)
        · skip
          refine lv_iconst (v := 1) hx hb dX3_withDigit_31 (by decide) ?_
          refine lv_goto (tgt := 36) hx hb dX3_withDigit_32 (by decide) ?_
          exact J_36 1 (by (try simp only [if_pos c_11, if_neg c_17, if_neg c_21, if_pos c_28])) _ _ hP hD hS ls (lv_sub hl [1, 2, 3, 4, 0] rfl)
theorem hdX3_withDigit : yX3_withDigit.cls = RX3 ∧ yX3_withDigit.cls ≠ "java/lang/invoke/MethodHandle" ∧ yX3_withDigit.cls ≠ "java/lang/invoke/VarHandle" ∧ (parseMethodDescriptor yX3_withDigit.desc).map (fun d => d.parameters.length) = some 3 := by decide +kernel
noncomputable def fX3_edited (x0 : Int32) (v_fill : Int32) (v_on : Int32) (v_fnz : Int32) (v_next : Int32) (v_sec : Int32) (v_sab : Int32) (v_mark : Int32) (v_fault : Int32) (v_word : Int64) (v_bF : (Nat → Int32)) (v_kF : (Nat → Int32)) : (Int32 × (Int32 × Int32 × Int32 × Int32 × Int32 × Int32 × Int32)) :=
  let r_5 := fX6_get x0 v_bF
  if r_5 = 32 then (let p_25 := fX3_nextDigit v_next v_sec v_sab v_fault v_word v_bF v_kF; let r_25 := p_25.1; let u_25 := p_25.2; let p_28 := fX3_withDigit x0 r_5 r_25 v_fill v_on v_fnz u_25.2.2.1 v_mark; let r_28 := p_28.1; let u_28 := p_28.2; (r_28, (u_28.1, u_28.2.1, u_25.1, u_25.2.1, u_25.2.2.1, u_28.2.2, u_25.2.2.2))) else (if r_5 = 33 then (let p_25 := fX3_nextDigit v_next v_sec v_sab v_fault v_word v_bF v_kF; let r_25 := p_25.1; let u_25 := p_25.2; let p_28 := fX3_withDigit x0 r_5 r_25 v_fill v_on v_fnz u_25.2.2.1 v_mark; let r_28 := p_28.1; let u_28 := p_28.2; (r_28, (u_28.1, u_28.2.1, u_25.1, u_25.2.1, u_25.2.2.1, u_28.2.2, u_25.2.2.2))) else (if r_5 = 34 then ((v_fill, (0, 0, v_next, v_sec, v_sab, v_mark, v_fault))) else (if v_on = 0 then ((v_fill, (v_on, v_fnz, v_next, v_sec, v_sab, v_mark, v_fault))) else ((r_5, (v_on, v_fnz, v_next, v_sec, v_sab, v_mark, v_fault))))))
abbrev wX3_edited (cI cB : ClassId) (a_ed a_ins a_mc a_me a_ps a_by a_ks a_rg a_made : Nat) (v_fill : Int32) (v_on : Int32) (v_fnz : Int32) (v_next : Int32) (v_sec : Int32) (v_sab : Int32) (v_mark : Int32) (v_fault : Int32) (v_word : Int64) (v_bF : (Nat → Int32)) (v_kF : (Nat → Int32)) : va_W := [(a_ed, .inr (3, [.ref a_mc, .ref a_ins, .ref a_me, .ref a_made, .int v_fill, .int v_on, .int v_fnz, .int v_next, .int v_sec, .int v_sab, .int v_mark])), (a_mc, .inr (5, [.ref a_me, .ref a_ps, .ref a_rg, .int v_fault])), (a_me, .inr (6, [.ref a_by, .ref a_ks])), (a_ps, .inr (7, [.long v_word])), (a_by, .inl (cB, 8192, .inl v_bF)), (a_ks, .inl (cI, 4, .inl v_kF))]
abbrev rmX3_edited : Room := { frames := 3, cells := 0, slots := 0, locals := 70 }
abbrev qX3_edited (D : va_G) (cI cB : ClassId) (a_ed a_ins a_mc a_me a_ps a_by a_ks a_rg a_made : Nat) (v_fill : Int32) (v_on : Int32) (v_fnz : Int32) (v_next : Int32) (v_sec : Int32) (v_sab : Int32) (v_mark : Int32) (v_fault : Int32) (v_word : Int64) (v_bF : (Nat → Int32)) (v_kF : (Nat → Int32)) (x0 : Int32) : (Nat → Prop) → Array Value → State → Outcome → State → Prop := fun A9 => va_Qi (fun (r9 : Int32) (u9 : (Int32 × Int32 × Int32 × Int32 × Int32 × Int32 × Int32)) => r9 = (fX3_edited x0 v_fill v_on v_fnz v_next v_sec v_sab v_mark v_fault v_word v_bF v_kF).1 ∧ u9 = (fX3_edited x0 v_fill v_on v_fnz v_next v_sec v_sab v_mark v_fault v_word v_bF v_kF).2) (fun u9 t9 => atW D (TYS cI cB) A9 (wX3_edited cI cB a_ed a_ins a_mc a_me a_ps a_by a_ks a_rg a_made v_fill u9.1 u9.2.1 u9.2.2.1 u9.2.2.2.1 u9.2.2.2.2.1 u9.2.2.2.2.2.1 u9.2.2.2.2.2.2 v_word v_bF v_kF) t9) A9
set_option maxHeartbeats 4000000 in
set_option maxRecDepth 100000 in
theorem kX3_edited (l : Launch) (D : va_G) (cI cB : ClassId) (a_ed a_ins a_mc a_me a_ps a_by a_ks a_rg a_made : Nat) (sz : Nat) (v_fill : Int32) (v_on : Int32) (v_fnz : Int32) (v_next : Int32) (v_sec : Int32) (v_sab : Int32) (v_mark : Int32) (v_fault : Int32) (v_word : Int64) (v_bF : (Nat → Int32)) (v_kF : (Nat → Int32)) (x0 : Int32) : MetW l yX3_edited (WK yX3_edited cX3_edited 3 (some .int)) rmX3_edited D (TYS cI cB) (wX3_edited cI cB a_ed a_ins a_mc a_me a_ps a_by a_ks a_rg a_made v_fill v_on v_fnz v_next v_sec v_sab v_mark v_fault v_word v_bF v_kF) sz [.ref a_ed, .int x0] (qX3_edited D cI cB a_ed a_ins a_mc a_me a_ps a_by a_ks a_rg a_made v_fill v_on v_fnz v_next v_sec v_sab v_mark v_fault v_word v_bF v_kF x0) 0 0 := by
  refine met_std (by decide) rfl (Nat.le_of_ble_eq_true rfl) ?_
  intro p e s m below meth c A ls H hx hb hr hml hown hts hlocks hA hP hK hD hS hNW hl
  have hl : lv_has ls 3 [(0, .ref a_ed), (1, .int x0)] := hl
  have q_0 := hts _ (List.mem_cons_of_mem _ wd_284)
  have q_1 := hts _ (List.mem_cons_of_mem _ wd_288)
  have q_2 := hts _ (List.mem_cons_of_mem _ wd_287)
  have q_3 := hts _ (List.mem_cons_of_mem _ wd_289)
  refine lv_aload_n hx hb dX3_edited_0 rfl (lv_at hl 0 rfl) ?_
  refine va_get (D := D) (ci := 3) (v := .ref a_me) (C := RX3) (T := TX3) (N := 11) hx hb hts in_X3 hown hK hP 0 rfl rfl 2 (by decide) q_0 (fun _ h9 => h9) rfl dX3_edited_1 ?_
  refine lv_iload_n hx hb dX3_edited_4 rfl (lv_at hl 1 rfl) ?_
  have hPc : va_P D vwCl (wX6_get cI cB a_me a_by a_ks v_bF) H := hP.sub [2, 4] rfl
  have hDc : va_D A (wX6_get cI cB a_me a_by a_ks v_bF) := hD.sub [2, 4] (by decide) rfl
  have hFc := va_free (wc := (wX6_get cI cB a_me a_by a_ks v_bF)) hD hS hA [2, 4] rfl
  refine va_calli (va_runV (As := [.int x0]) (rest := []) ⟨hx, hb, hml, hown, hts⟩ (kX6_get l D cI cB a_me a_by a_ks H.size v_bF x0) (cwV 1 hts (gd_V wd_293 wd_109 wd_110 wd_78 wd_102) rfl rfl rfl hdX6_get ⟨Nat.le_of_ble_eq_true rfl, Nat.le_of_ble_eq_true rfl⟩) (preV_std (ci := 6) (q0 := 0) hPc hK hDc hNW rfl rfl) rfl rfl hl.1 rfl (lv_room (Nat.le_of_ble_eq_true rfl)) dX3_edited_5 ⟨Nat.zero_le _, Nat.zero_le _⟩) hS (fun q _ h => hFc q h) hFc (fun r_5 u_5 t9 H1 locs ht9 hvm9 hw9 hB9 hz9 hk9 hS => ?_)
  have er_5 : r_5 = fX6_get x0 v_bF := hw9
  obtain ⟨hP, hD⟩ := back_std (w1 := (wX6_get cI cB a_me a_by a_ks v_bF)) (w2 := (wX3_edited cI cB a_ed a_ins a_mc a_me a_ps a_by a_ks a_rg a_made v_fill v_on v_fnz v_next v_sec v_sab v_mark v_fault v_word v_bF v_kF)) (wr := [(a_ed, .inr (3, [.ref a_mc, .ref a_ins, .ref a_me, .ref a_made, .int v_fill, .int v_on, .int v_fnz, .int v_next, .int v_sec, .int v_sab, .int v_mark])), (a_mc, .inr (5, [.ref a_me, .ref a_ps, .ref a_rg, .int v_fault])), (a_ps, .inr (7, [.long v_word])), (a_ks, .inl (cI, 4, .inl v_kF))]) hP hD [2, 4] [0, 1, 3, 5] [0, 1, 4, 2, 5, 3] rfl rfl (by decide) (by decide) hk9 hFc hB9 ht9 (by decide) rfl
  clear hB9 hk9 hz9 hvm9 ht9 hFc hPc hDc
  generalize H1 = H at hP hS ⊢
  refine lv_istore_n (lv' := [(2, .int r_5), (0, .ref a_ed), (1, .int x0)]) hx hb dX3_edited_8 rfl hl (by decide) rfl (fun ls hl => ?_)
  refine lv_iload_n hx hb dX3_edited_9 rfl (lv_at hl 0 rfl) ?_
  refine lv_bipush (v := 32) hx hb dX3_edited_10 (by decide) ?_
  refine lv_icmp_eq (tgt := 21) hx hb dX3_edited_12 (by decide) (fun c_12 => ?_) (fun c_12 => ?_)
  · skip
    refine lv_aload_n hx hb dX3_edited_21 rfl (lv_at hl 1 rfl) ?_
    refine lv_iload_n hx hb dX3_edited_22 rfl (lv_at hl 2 rfl) ?_
    refine lv_iload_n hx hb dX3_edited_23 rfl (lv_at hl 0 rfl) ?_
    refine lv_aload_n hx hb dX3_edited_24 rfl (lv_at hl 1 rfl) ?_
    have hPc : va_P D vwCl (wX3_nextDigit cI cB a_ed a_ins a_mc a_me a_ps a_by a_ks a_rg a_made v_fill v_on v_fnz v_next v_sec v_sab v_mark v_fault v_word v_bF v_kF) H := hP.sub [0, 1, 2, 3, 4, 5] rfl
    have hDc : va_D A (wX3_nextDigit cI cB a_ed a_ins a_mc a_me a_ps a_by a_ks a_rg a_made v_fill v_on v_fnz v_next v_sec v_sab v_mark v_fault v_word v_bF v_kF) := hD.sub [0, 1, 2, 3, 4, 5] (by decide) rfl
    have hFc := va_free (wc := (wX3_nextDigit cI cB a_ed a_ins a_mc a_me a_ps a_by a_ks a_rg a_made v_fill v_on v_fnz v_next v_sec v_sab v_mark v_fault v_word v_bF v_kF)) hD hS hA [0, 1, 2, 3, 4, 5] rfl
    refine va_calli (va_runV (As := []) (rest := [.int r_5, .int x0, .ref a_ed]) ⟨hx, hb, hml, hown, hts⟩ (kX3_nextDigit l D cI cB a_ed a_ins a_mc a_me a_ps a_by a_ks a_rg a_made H.size v_fill v_on v_fnz v_next v_sec v_sab v_mark v_fault v_word v_bF v_kF ) (cwV 0 hts (gd_V wd_302 wd_303 wd_304 wd_305 wd_300) rfl rfl rfl hdX3_nextDigit ⟨Nat.le_of_ble_eq_true rfl, Nat.le_of_ble_eq_true rfl⟩) (preV_std (ci := 3) (q0 := 0) hPc hK hDc hNW rfl rfl) rfl rfl hl.1 rfl (lv_room (Nat.le_of_ble_eq_true rfl)) dX3_edited_25 ⟨Nat.zero_le _, Nat.zero_le _⟩) hS (fun q _ h => hFc q h) hFc (fun r_25 u_25 t9 H1 locs ht9 hvm9 hw9 hB9 hz9 hk9 hS => ?_)
    obtain ⟨er_25, eu_25⟩ := hw9
    obtain ⟨hP, hD⟩ := back_std (w1 := (wX3_nextDigit cI cB a_ed a_ins a_mc a_me a_ps a_by a_ks a_rg a_made v_fill v_on v_fnz u_25.1 u_25.2.1 u_25.2.2.1 v_mark u_25.2.2.2 v_word v_bF v_kF)) (w2 := (wX3_edited cI cB a_ed a_ins a_mc a_me a_ps a_by a_ks a_rg a_made v_fill v_on v_fnz u_25.1 u_25.2.1 u_25.2.2.1 v_mark u_25.2.2.2 v_word v_bF v_kF)) (wr := []) hP hD [0, 1, 2, 3, 4, 5] [] [0, 1, 2, 3, 4, 5] rfl rfl (by decide) (by decide) hk9 hFc hB9 ht9 (by decide) rfl
    clear hB9 hk9 hz9 hvm9 ht9 hFc hPc hDc
    generalize H1 = H at hP hS ⊢
    have hPc : va_P D vwCl (wX3_withDigit cI cB a_ed a_ins a_mc a_me a_made v_fill v_on v_fnz u_25.1 u_25.2.1 u_25.2.2.1 v_mark) H := hP.sub [0] rfl
    have hDc : va_D A (wX3_withDigit cI cB a_ed a_ins a_mc a_me a_made v_fill v_on v_fnz u_25.1 u_25.2.1 u_25.2.2.1 v_mark) := hD.sub [0] (by decide) rfl
    have hFc := va_free (wc := (wX3_withDigit cI cB a_ed a_ins a_mc a_me a_made v_fill v_on v_fnz u_25.1 u_25.2.1 u_25.2.2.1 v_mark)) hD hS hA [0] rfl
    refine va_calli (va_runV (As := [.int x0, .int r_5, .int r_25]) (rest := []) ⟨hx, hb, hml, hown, hts⟩ (kX3_withDigit l D cI cB a_ed a_ins a_mc a_me a_made H.size v_fill v_on v_fnz u_25.1 u_25.2.1 u_25.2.2.1 v_mark x0 r_5 r_25) (cwV 3 hts (gd_V wd_306 wd_307 wd_308 wd_305 wd_301) rfl rfl rfl hdX3_withDigit ⟨Nat.le_of_ble_eq_true rfl, Nat.le_of_ble_eq_true rfl⟩) (preV_std (ci := 3) (q0 := 0) hPc hK hDc hNW rfl rfl) rfl rfl hl.1 rfl (lv_room (Nat.le_of_ble_eq_true rfl)) dX3_edited_28 ⟨Nat.zero_le _, Nat.zero_le _⟩) hS (fun q _ h => hFc q h) hFc (fun r_28 u_28 t9 H1 locs ht9 hvm9 hw9 hB9 hz9 hk9 hS => ?_)
    obtain ⟨er_28, eu_28⟩ := hw9
    obtain ⟨hP, hD⟩ := back_std (w1 := (wX3_withDigit cI cB a_ed a_ins a_mc a_me a_made v_fill u_28.1 u_28.2.1 u_25.1 u_25.2.1 u_25.2.2.1 u_28.2.2)) (w2 := (wX3_edited cI cB a_ed a_ins a_mc a_me a_ps a_by a_ks a_rg a_made v_fill u_28.1 u_28.2.1 u_25.1 u_25.2.1 u_25.2.2.1 u_28.2.2 u_25.2.2.2 v_word v_bF v_kF)) (wr := [(a_mc, .inr (5, [.ref a_me, .ref a_ps, .ref a_rg, .int u_25.2.2.2])), (a_me, .inr (6, [.ref a_by, .ref a_ks])), (a_ps, .inr (7, [.long v_word])), (a_by, .inl (cB, 8192, .inl v_bF)), (a_ks, .inl (cI, 4, .inl v_kF))]) hP hD [0] [1, 2, 3, 4, 5] [5, 0, 1, 2, 3, 4] rfl rfl (by decide) (by decide) hk9 hFc hB9 ht9 (by decide) rfl
    clear hB9 hk9 hz9 hvm9 ht9 hFc hPc hDc
    generalize H1 = H at hP hS ⊢
    have hf9 : (r_28, (u_28.1, u_28.2.1, u_25.1, u_25.2.1, u_25.2.2.1, u_28.2.2, u_25.2.2.2)) = fX3_edited x0 v_fill v_on v_fnz v_next v_sec v_sab v_mark v_fault v_word v_bF v_kF := by simp only [fX3_edited, ← er_5, ← er_25, ← eu_25, ← er_28, ← eu_28]; (try simp only [if_pos c_12])
    exact W.iret hx hb hr (fun t9 ht9 hW9 => ⟨⟨r_28, (u_28.1, u_28.2.1, u_25.1, u_25.2.1, u_25.2.2.1, u_28.2.2, u_25.2.2.2), rfl, ⟨by rw [← hf9], by rw [← hf9]⟩, ⟨by rw [ht9]; exact hP, va_K.moved hW9.alike hK, hD⟩⟩, hS.F ht9⟩) hS.2.2 dX3_edited_31
  · skip
    refine lv_iload_n hx hb dX3_edited_15 rfl (lv_at hl 0 rfl) ?_
    refine lv_bipush (v := 33) hx hb dX3_edited_16 (by decide) ?_
    refine lv_icmp_ne (tgt := 32) hx hb dX3_edited_18 (by decide) (fun c_18 => ?_) (fun c_18 => ?_)
    · skip
      refine lv_iload_n hx hb dX3_edited_32 rfl (lv_at hl 0 rfl) ?_
      refine lv_bipush (v := 34) hx hb dX3_edited_33 (by decide) ?_
      refine lv_icmp_ne (tgt := 53) hx hb dX3_edited_35 (by decide) (fun c_35 => ?_) (fun c_35 => ?_)
      · skip
        refine lv_aload_n hx hb dX3_edited_53 rfl (lv_at hl 1 rfl) ?_
        refine va_get (D := D) (ci := 3) (v := .int v_on) (C := RX3) (T := TX3) (N := 11) hx hb hts in_X3 hown hK hP 0 rfl rfl 5 (by decide) q_1 (fun _ h9 => h9) rfl dX3_edited_54 ?_
        refine lv_if_eq (tgt := 64) hx hb dX3_edited_57 (by decide) (fun c_57 => ?_) (fun c_57 => ?_)
        · skip
          refine lv_aload_n hx hb dX3_edited_64 rfl (lv_at hl 1 rfl) ?_
          refine va_get (D := D) (ci := 3) (v := .int v_fill) (C := RX3) (T := TX3) (N := 11) hx hb hts in_X3 hown hK hP 0 rfl rfl 4 (by decide) q_2 (fun _ h9 => h9) rfl dX3_edited_65 ?_
          have hf9 : (v_fill, (v_on, v_fnz, v_next, v_sec, v_sab, v_mark, v_fault)) = fX3_edited x0 v_fill v_on v_fnz v_next v_sec v_sab v_mark v_fault v_word v_bF v_kF := by simp only [fX3_edited, ← er_5]; (try simp only [if_neg c_12, if_neg c_18, if_neg c_35, if_pos c_57])
          exact W.iret hx hb hr (fun t9 ht9 hW9 => ⟨⟨v_fill, (v_on, v_fnz, v_next, v_sec, v_sab, v_mark, v_fault), rfl, ⟨by rw [← hf9], by rw [← hf9]⟩, ⟨by rw [ht9]; exact hP, va_K.moved hW9.alike hK, hD⟩⟩, hS.F ht9⟩) hS.2.2 dX3_edited_68
        · skip
          refine lv_iload_n hx hb dX3_edited_60 rfl (lv_at hl 0 rfl) ?_
          refine lv_goto (tgt := 68) hx hb dX3_edited_61 (by decide) ?_
          have hf9 : (r_5, (v_on, v_fnz, v_next, v_sec, v_sab, v_mark, v_fault)) = fX3_edited x0 v_fill v_on v_fnz v_next v_sec v_sab v_mark v_fault v_word v_bF v_kF := by simp only [fX3_edited, ← er_5]; (try simp only [if_neg c_12, if_neg c_18, if_neg c_35, if_neg c_57])
          exact W.iret hx hb hr (fun t9 ht9 hW9 => ⟨⟨r_5, (v_on, v_fnz, v_next, v_sec, v_sab, v_mark, v_fault), rfl, ⟨by rw [← hf9], by rw [← hf9]⟩, ⟨by rw [ht9]; exact hP, va_K.moved hW9.alike hK, hD⟩⟩, hS.F ht9⟩) hS.2.2 dX3_edited_68
      · skip
        refine lv_aload_n hx hb dX3_edited_38 rfl (lv_at hl 1 rfl) ?_
        refine lv_iconst (v := 0) hx hb dX3_edited_39 (by decide) ?_
        refine va_put (D := D) (ci := 3) (v := .int 0) (ty := .boolean) (C := RX3) (T := TX3) (N := 11) hx hb hts in_X3 tyX3 tyX3_ok nmX3 hown hK hP hD hS 0 rfl rfl 5 (by decide) q_1 (fun _ h9 => h9) rfl (by decide +kernel) rfl rfl (Nat.le_of_ble_eq_true rfl) dX3_edited_40 (fun H locs hP hD hS => ?_)
        have hP : va_P D vwCl (wX3_edited cI cB a_ed a_ins a_mc a_me a_ps a_by a_ks a_rg a_made v_fill 0 v_fnz v_next v_sec v_sab v_mark v_fault v_word v_bF v_kF) H := hP
        have hD : va_D A (wX3_edited cI cB a_ed a_ins a_mc a_me a_ps a_by a_ks a_rg a_made v_fill 0 v_fnz v_next v_sec v_sab v_mark v_fault v_word v_bF v_kF) := hD
        refine lv_aload_n hx hb dX3_edited_43 rfl (lv_at hl 1 rfl) ?_
        refine lv_iconst (v := 0) hx hb dX3_edited_44 (by decide) ?_
        refine va_put (D := D) (ci := 3) (v := .int 0) (ty := .boolean) (C := RX3) (T := TX3) (N := 11) hx hb hts in_X3 tyX3 tyX3_ok nmX3 hown hK hP hD hS 0 rfl rfl 6 (by decide) q_3 (fun _ h9 => h9) rfl (by decide +kernel) rfl rfl (Nat.le_of_ble_eq_true rfl) dX3_edited_45 (fun H locs hP hD hS => ?_)
        have hP : va_P D vwCl (wX3_edited cI cB a_ed a_ins a_mc a_me a_ps a_by a_ks a_rg a_made v_fill 0 0 v_next v_sec v_sab v_mark v_fault v_word v_bF v_kF) H := hP
        have hD : va_D A (wX3_edited cI cB a_ed a_ins a_mc a_me a_ps a_by a_ks a_rg a_made v_fill 0 0 v_next v_sec v_sab v_mark v_fault v_word v_bF v_kF) := hD
        refine lv_aload_n hx hb dX3_edited_48 rfl (lv_at hl 1 rfl) ?_
        refine va_get (D := D) (ci := 3) (v := .int v_fill) (C := RX3) (T := TX3) (N := 11) hx hb hts in_X3 hown hK hP 0 rfl rfl 4 (by decide) q_2 (fun _ h9 => h9) rfl dX3_edited_49 ?_
        have hf9 : (v_fill, (0, 0, v_next, v_sec, v_sab, v_mark, v_fault)) = fX3_edited x0 v_fill v_on v_fnz v_next v_sec v_sab v_mark v_fault v_word v_bF v_kF := by simp only [fX3_edited, ← er_5]; (try simp only [if_neg c_12, if_neg c_18, if_pos c_35])
        exact W.iret hx hb hr (fun t9 ht9 hW9 => ⟨⟨v_fill, (0, 0, v_next, v_sec, v_sab, v_mark, v_fault), rfl, ⟨by rw [← hf9], by rw [← hf9]⟩, ⟨by rw [ht9]; exact hP, va_K.moved hW9.alike hK, hD⟩⟩, hS.F ht9⟩) hS.2.2 dX3_edited_52
    · skip
      refine lv_aload_n hx hb dX3_edited_21 rfl (lv_at hl 1 rfl) ?_
      refine lv_iload_n hx hb dX3_edited_22 rfl (lv_at hl 2 rfl) ?_
      refine lv_iload_n hx hb dX3_edited_23 rfl (lv_at hl 0 rfl) ?_
      refine lv_aload_n hx hb dX3_edited_24 rfl (lv_at hl 1 rfl) ?_
      have hPc : va_P D vwCl (wX3_nextDigit cI cB a_ed a_ins a_mc a_me a_ps a_by a_ks a_rg a_made v_fill v_on v_fnz v_next v_sec v_sab v_mark v_fault v_word v_bF v_kF) H := hP.sub [0, 1, 2, 3, 4, 5] rfl
      have hDc : va_D A (wX3_nextDigit cI cB a_ed a_ins a_mc a_me a_ps a_by a_ks a_rg a_made v_fill v_on v_fnz v_next v_sec v_sab v_mark v_fault v_word v_bF v_kF) := hD.sub [0, 1, 2, 3, 4, 5] (by decide) rfl
      have hFc := va_free (wc := (wX3_nextDigit cI cB a_ed a_ins a_mc a_me a_ps a_by a_ks a_rg a_made v_fill v_on v_fnz v_next v_sec v_sab v_mark v_fault v_word v_bF v_kF)) hD hS hA [0, 1, 2, 3, 4, 5] rfl
      refine va_calli (va_runV (As := []) (rest := [.int r_5, .int x0, .ref a_ed]) ⟨hx, hb, hml, hown, hts⟩ (kX3_nextDigit l D cI cB a_ed a_ins a_mc a_me a_ps a_by a_ks a_rg a_made H.size v_fill v_on v_fnz v_next v_sec v_sab v_mark v_fault v_word v_bF v_kF ) (cwV 0 hts (gd_V wd_302 wd_303 wd_304 wd_305 wd_300) rfl rfl rfl hdX3_nextDigit ⟨Nat.le_of_ble_eq_true rfl, Nat.le_of_ble_eq_true rfl⟩) (preV_std (ci := 3) (q0 := 0) hPc hK hDc hNW rfl rfl) rfl rfl hl.1 rfl (lv_room (Nat.le_of_ble_eq_true rfl)) dX3_edited_25 ⟨Nat.zero_le _, Nat.zero_le _⟩) hS (fun q _ h => hFc q h) hFc (fun r_25 u_25 t9 H1 locs ht9 hvm9 hw9 hB9 hz9 hk9 hS => ?_)
      obtain ⟨er_25, eu_25⟩ := hw9
      obtain ⟨hP, hD⟩ := back_std (w1 := (wX3_nextDigit cI cB a_ed a_ins a_mc a_me a_ps a_by a_ks a_rg a_made v_fill v_on v_fnz u_25.1 u_25.2.1 u_25.2.2.1 v_mark u_25.2.2.2 v_word v_bF v_kF)) (w2 := (wX3_edited cI cB a_ed a_ins a_mc a_me a_ps a_by a_ks a_rg a_made v_fill v_on v_fnz u_25.1 u_25.2.1 u_25.2.2.1 v_mark u_25.2.2.2 v_word v_bF v_kF)) (wr := []) hP hD [0, 1, 2, 3, 4, 5] [] [0, 1, 2, 3, 4, 5] rfl rfl (by decide) (by decide) hk9 hFc hB9 ht9 (by decide) rfl
      clear hB9 hk9 hz9 hvm9 ht9 hFc hPc hDc
      generalize H1 = H at hP hS ⊢
      have hPc : va_P D vwCl (wX3_withDigit cI cB a_ed a_ins a_mc a_me a_made v_fill v_on v_fnz u_25.1 u_25.2.1 u_25.2.2.1 v_mark) H := hP.sub [0] rfl
      have hDc : va_D A (wX3_withDigit cI cB a_ed a_ins a_mc a_me a_made v_fill v_on v_fnz u_25.1 u_25.2.1 u_25.2.2.1 v_mark) := hD.sub [0] (by decide) rfl
      have hFc := va_free (wc := (wX3_withDigit cI cB a_ed a_ins a_mc a_me a_made v_fill v_on v_fnz u_25.1 u_25.2.1 u_25.2.2.1 v_mark)) hD hS hA [0] rfl
      refine va_calli (va_runV (As := [.int x0, .int r_5, .int r_25]) (rest := []) ⟨hx, hb, hml, hown, hts⟩ (kX3_withDigit l D cI cB a_ed a_ins a_mc a_me a_made H.size v_fill v_on v_fnz u_25.1 u_25.2.1 u_25.2.2.1 v_mark x0 r_5 r_25) (cwV 3 hts (gd_V wd_306 wd_307 wd_308 wd_305 wd_301) rfl rfl rfl hdX3_withDigit ⟨Nat.le_of_ble_eq_true rfl, Nat.le_of_ble_eq_true rfl⟩) (preV_std (ci := 3) (q0 := 0) hPc hK hDc hNW rfl rfl) rfl rfl hl.1 rfl (lv_room (Nat.le_of_ble_eq_true rfl)) dX3_edited_28 ⟨Nat.zero_le _, Nat.zero_le _⟩) hS (fun q _ h => hFc q h) hFc (fun r_28 u_28 t9 H1 locs ht9 hvm9 hw9 hB9 hz9 hk9 hS => ?_)
      obtain ⟨er_28, eu_28⟩ := hw9
      obtain ⟨hP, hD⟩ := back_std (w1 := (wX3_withDigit cI cB a_ed a_ins a_mc a_me a_made v_fill u_28.1 u_28.2.1 u_25.1 u_25.2.1 u_25.2.2.1 u_28.2.2)) (w2 := (wX3_edited cI cB a_ed a_ins a_mc a_me a_ps a_by a_ks a_rg a_made v_fill u_28.1 u_28.2.1 u_25.1 u_25.2.1 u_25.2.2.1 u_28.2.2 u_25.2.2.2 v_word v_bF v_kF)) (wr := [(a_mc, .inr (5, [.ref a_me, .ref a_ps, .ref a_rg, .int u_25.2.2.2])), (a_me, .inr (6, [.ref a_by, .ref a_ks])), (a_ps, .inr (7, [.long v_word])), (a_by, .inl (cB, 8192, .inl v_bF)), (a_ks, .inl (cI, 4, .inl v_kF))]) hP hD [0] [1, 2, 3, 4, 5] [5, 0, 1, 2, 3, 4] rfl rfl (by decide) (by decide) hk9 hFc hB9 ht9 (by decide) rfl
      clear hB9 hk9 hz9 hvm9 ht9 hFc hPc hDc
      generalize H1 = H at hP hS ⊢
      have hf9 : (r_28, (u_28.1, u_28.2.1, u_25.1, u_25.2.1, u_25.2.2.1, u_28.2.2, u_25.2.2.2)) = fX3_edited x0 v_fill v_on v_fnz v_next v_sec v_sab v_mark v_fault v_word v_bF v_kF := by simp only [fX3_edited, ← er_5, ← er_25, ← eu_25, ← er_28, ← eu_28]; (try simp only [if_neg c_12, if_pos c_18])
      exact W.iret hx hb hr (fun t9 ht9 hW9 => ⟨⟨r_28, (u_28.1, u_28.2.1, u_25.1, u_25.2.1, u_25.2.2.1, u_28.2.2, u_25.2.2.2), rfl, ⟨by rw [← hf9], by rw [← hf9]⟩, ⟨by rw [ht9]; exact hP, va_K.moved hW9.alike hK, hD⟩⟩, hS.F ht9⟩) hS.2.2 dX3_edited_31
theorem hdX3_edited : yX3_edited.cls = RX3 ∧ yX3_edited.cls ≠ "java/lang/invoke/MethodHandle" ∧ yX3_edited.cls ≠ "java/lang/invoke/VarHandle" ∧ (parseMethodDescriptor yX3_edited.desc).map (fun d => d.parameters.length) = some 1 := by decide +kernel
noncomputable def LX3_edit_32 (v_word : Int64) (v_a : Int32) (v_bF : (Nat → Int32)) (v_kF : (Nat → Int32)) (x_9 : Int32) (u_27 : (Int32 × Int32 × Int32 × Int32 × Int32 × Int32)) : Nat → (Int32 × Int32 × Int32 × Int32 × Int32 × Int32 × Int32 × (Nat → Int32) × Int32) → (Int32 × Int32 × Int32 × Int32 × Int32 × Int32 × Int32 × (Nat → Int32) × Int32)
  | 0, w_32 => w_32
  | n9 + 1, w_32 =>
    if x_9 ≤ w_32.2.2.2.2.2.2.2.2 then ((w_32.1, w_32.2.1, w_32.2.2.1, w_32.2.2.2.1, w_32.2.2.2.2.1, w_32.2.2.2.2.2.1, w_32.2.2.2.2.2.2.1, w_32.2.2.2.2.2.2.2.1, w_32.2.2.2.2.2.2.2.2)) else (let r_41 := fX5_fine w_32.2.2.2.2.2.2.1; if r_41 = 0 then ((w_32.1, w_32.2.1, w_32.2.2.1, w_32.2.2.2.1, w_32.2.2.2.2.1, w_32.2.2.2.2.2.1, w_32.2.2.2.2.2.2.1, w_32.2.2.2.2.2.2.2.1, w_32.2.2.2.2.2.2.2.2)) else (let p_66 := fX3_edited (v_a + w_32.2.2.2.2.2.2.2.2) u_27.1 w_32.1 w_32.2.1 w_32.2.2.1 w_32.2.2.2.1 w_32.2.2.2.2.1 w_32.2.2.2.2.2.1 w_32.2.2.2.2.2.2.1 v_word v_bF v_kF; let r_66 := p_66.1; let u_66 := p_66.2; let f_69 := upd w_32.2.2.2.2.2.2.2.1 ((w_32.2.2.2.2.2.2.2.2 &&& 255) : Int32).toNatClampNeg (r_66); let x_70 := w_32.2.2.2.2.2.2.2.2 + 1; LX3_edit_32 v_word v_a v_bF v_kF x_9 u_27 n9 (u_66.1, u_66.2.1, u_66.2.2.1, u_66.2.2.2.1, u_66.2.2.2.2.1, u_66.2.2.2.2.2.1, u_66.2.2.2.2.2.2, f_69, x_70)))
noncomputable def LX3_edit_89 (v_a : Int32) (x_9 : Int32) (g_32 : (Int32 × Int32 × Int32 × Int32 × Int32 × Int32 × Int32 × (Nat → Int32) × Int32)) : Nat → ((Nat → Int32) × Int32) → ((Nat → Int32) × Int32)
  | 0, w_89 => w_89
  | n9 + 1, w_89 =>
    if x_9 ≤ w_89.2 then ((w_89.1, w_89.2)) else (let u_117 := fX6_set (v_a + w_89.2) (g_32.2.2.2.2.2.2.2.1 ((w_89.2 &&& 255) : Int32).toNatClampNeg) w_89.1; let x_120 := w_89.2 + 1; LX3_edit_89 v_a x_9 g_32 n9 (u_117, x_120))
noncomputable def fX3_edit (x0 : Int32) (v_fill : Int32) (v_on : Int32) (v_fnz : Int32) (v_next : Int32) (v_sec : Int32) (v_sab : Int32) (v_mark : Int32) (v_i : Int32) (v_a : Int32) (v_b : Int32) (v_fault : Int32) (v_word : Int64) (v_bF : (Nat → Int32)) (v_kF : (Nat → Int32)) (v_rF : (Nat → Int32)) (v_madeF : (Nat → Int32)) : (Int32 × Int32 × Int32 × Int32 × Int32 × Int32 × Int32 × Int32 × Int64 × (Nat → Int32) × (Nat → Int32) × (Nat → Int32)) :=
  let x_9 := (v_i + 1)
  let u_23 := fX5_demand v_a x_9 1 v_fault v_word v_kF
  let u_27 := fX3_begin v_fill v_on v_fnz v_next v_sec v_mark v_a v_b v_bF
  let g_32 := LX3_edit_32 v_word v_a v_bF v_kF x_9 u_27 (msU x_9 0 + 1) (u_27.2.1, u_27.2.2.1, u_27.2.2.2.1, u_27.2.2.2.2.1, v_sab, u_27.2.2.2.2.2, u_23, v_madeF, 0)
  let r_80 := fX5_fine g_32.2.2.2.2.2.2.1
  if r_80 = 0 then ((u_27.1, g_32.1, g_32.2.1, g_32.2.2.1, g_32.2.2.2.1, g_32.2.2.2.2.1, g_32.2.2.2.2.2.1, g_32.2.2.2.2.2.2.1, v_word, v_bF, v_rF, g_32.2.2.2.2.2.2.2.1)) else (let g_89 := LX3_edit_89 v_a x_9 g_32 (msU x_9 0 + 1) (v_bF, 0); let m_150 : (Nat → Int32) := (if x0 = 0 then (v_rF) else (if g_32.2.2.2.2.2.1 = (-1) then (v_rF) else (let u_147 := fX5_setLastAddress 1 g_32.2.2.2.2.2.1 v_rF; u_147))); let m_180 : Int32 := (if g_32.2.1 = 0 then (0) else (if g_32.1 = 0 then (2) else (1))); let u_180 := fX7_setCondition m_180 v_word; (u_27.1, g_32.1, g_32.2.1, g_32.2.2.1, g_32.2.2.2.1, g_32.2.2.2.2.1, g_32.2.2.2.2.2.1, g_32.2.2.2.2.2.2.1, u_180, g_89.1, m_150, g_32.2.2.2.2.2.2.2.1))
abbrev wX3_edit (cI cB : ClassId) (a_ed a_ins a_mc a_me a_ps a_by a_ks a_rg a_made : Nat) (v_fill : Int32) (v_on : Int32) (v_fnz : Int32) (v_next : Int32) (v_sec : Int32) (v_sab : Int32) (v_mark : Int32) (v_op : Int32) (v_i : Int32) (v_r : Int32) (v_s : Int32) (v_a : Int32) (v_b : Int32) (v_fault : Int32) (v_word : Int64) (v_bF : (Nat → Int32)) (v_kF : (Nat → Int32)) (v_rF : (Nat → Int32)) (v_madeF : (Nat → Int32)) : va_W := [(a_ed, .inr (3, [.ref a_mc, .ref a_ins, .ref a_me, .ref a_made, .int v_fill, .int v_on, .int v_fnz, .int v_next, .int v_sec, .int v_sab, .int v_mark])), (a_ins, .inr (4, [.ref a_mc, .ref a_me, .int v_op, .int v_i, .int v_r, .int v_s, .int v_a, .int v_b])), (a_mc, .inr (5, [.ref a_me, .ref a_ps, .ref a_rg, .int v_fault])), (a_me, .inr (6, [.ref a_by, .ref a_ks])), (a_ps, .inr (7, [.long v_word])), (a_by, .inl (cB, 8192, .inl v_bF)), (a_ks, .inl (cI, 4, .inl v_kF)), (a_rg, .inl (cI, 16, .inl v_rF)), (a_made, .inl (cI, 256, .inl v_madeF))]
abbrev rmX3_edit : Room := { frames := 4, cells := 0, slots := 0, locals := 92 }
abbrev qX3_edit (D : va_G) (cI cB : ClassId) (a_ed a_ins a_mc a_me a_ps a_by a_ks a_rg a_made : Nat) (v_fill : Int32) (v_on : Int32) (v_fnz : Int32) (v_next : Int32) (v_sec : Int32) (v_sab : Int32) (v_mark : Int32) (v_op : Int32) (v_i : Int32) (v_r : Int32) (v_s : Int32) (v_a : Int32) (v_b : Int32) (v_fault : Int32) (v_word : Int64) (v_bF : (Nat → Int32)) (v_kF : (Nat → Int32)) (v_rF : (Nat → Int32)) (v_madeF : (Nat → Int32)) (x0 : Int32) : (Nat → Prop) → Array Value → State → Outcome → State → Prop := fun A9 => va_Qv (fun (u9 : (Int32 × Int32 × Int32 × Int32 × Int32 × Int32 × Int32 × Int32 × Int64 × (Nat → Int32) × (Nat → Int32) × (Nat → Int32))) => u9 = fX3_edit x0 v_fill v_on v_fnz v_next v_sec v_sab v_mark v_i v_a v_b v_fault v_word v_bF v_kF v_rF v_madeF) (fun u9 t9 => atW D (TYS cI cB) A9 (wX3_edit cI cB a_ed a_ins a_mc a_me a_ps a_by a_ks a_rg a_made u9.1 u9.2.1 u9.2.2.1 u9.2.2.2.1 u9.2.2.2.2.1 u9.2.2.2.2.2.1 u9.2.2.2.2.2.2.1 v_op v_i v_r v_s v_a v_b u9.2.2.2.2.2.2.2.1 u9.2.2.2.2.2.2.2.2.1 u9.2.2.2.2.2.2.2.2.2.1 v_kF u9.2.2.2.2.2.2.2.2.2.2.1 u9.2.2.2.2.2.2.2.2.2.2.2) t9) A9
set_option maxHeartbeats 4000000 in
set_option maxRecDepth 100000 in
theorem kX3_edit (l : Launch) (D : va_G) (cI cB : ClassId) (a_ed a_ins a_mc a_me a_ps a_by a_ks a_rg a_made : Nat) (sz : Nat) (v_fill : Int32) (v_on : Int32) (v_fnz : Int32) (v_next : Int32) (v_sec : Int32) (v_sab : Int32) (v_mark : Int32) (v_op : Int32) (v_i : Int32) (v_r : Int32) (v_s : Int32) (v_a : Int32) (v_b : Int32) (v_fault : Int32) (v_word : Int64) (v_bF : (Nat → Int32)) (v_kF : (Nat → Int32)) (v_rF : (Nat → Int32)) (v_madeF : (Nat → Int32)) (x0 : Int32) : MetW l yX3_edit (WK yX3_edit cX3_edit 4 none) rmX3_edit D (TYS cI cB) (wX3_edit cI cB a_ed a_ins a_mc a_me a_ps a_by a_ks a_rg a_made v_fill v_on v_fnz v_next v_sec v_sab v_mark v_op v_i v_r v_s v_a v_b v_fault v_word v_bF v_kF v_rF v_madeF) sz [.ref a_ed, .int x0] (qX3_edit D cI cB a_ed a_ins a_mc a_me a_ps a_by a_ks a_rg a_made v_fill v_on v_fnz v_next v_sec v_sab v_mark v_op v_i v_r v_s v_a v_b v_fault v_word v_bF v_kF v_rF v_madeF x0) 0 0 := by
  refine met_std (by decide) rfl (Nat.le_of_ble_eq_true rfl) ?_
  intro p e s m below meth c A ls H hx hb hr hml hown hts hlocks hA hP hK hD hS hNW hl
  have hl : lv_has ls 4 [(0, .ref a_ed), (1, .int x0)] := hl
  have q_0 := hts _ (List.mem_cons_of_mem _ wd_283)
  have q_1 := hts _ (List.mem_cons_of_mem _ wd_282)
  have q_2 := hts _ (List.mem_cons_of_mem _ wd_285)
  have q_3 := hts _ (List.mem_cons_of_mem _ wd_284)
  have q_4 := hts _ (List.mem_cons_of_mem _ wd_292)
  have q_5 := hts _ (List.mem_cons_of_mem _ wd_289)
  have q_6 := hts _ (List.mem_cons_of_mem _ wd_288)
  have n_0 := hNW.f (A := ([.ref a_ed, .int x0] : List Value).toArray) ("MainframeCore$Editor", 30, "MainframeCore$Instruction", "i", "I", "MainframeCore") (by decide +kernel)
  have n_1 := hNW.f (A := ([.ref a_ed, .int x0] : List Value).toArray) ("MainframeCore$Editor", 36, "MainframeCore$Instruction", "a", "I", "MainframeCore") (by decide +kernel)
  have n_2 := hNW.f (A := ([.ref a_ed, .int x0] : List Value).toArray) ("MainframeCore$Editor", 66, "MainframeCore$Machine", "psw", "LMainframeCore$Psw;", "MainframeCore") (by decide +kernel)
  refine lv_aload_n hx hb dX3_edit_0 rfl (lv_at hl 0 rfl) ?_
  refine va_get (D := D) (ci := 3) (v := .ref a_ins) (C := RX3) (T := TX3) (N := 11) hx hb hts in_X3 hown hK hP 0 rfl rfl 1 (by decide) q_0 (fun _ h9 => h9) rfl dX3_edit_1 ?_
  refine va_getN (D := D) (ci := 4) (v := .int v_i) (C := RX4) (T := TX4) (N := 8) hx hb hts in_X4 hown hK hP 1 rfl rfl 3 (by decide) n_0 (fun _ h9 => h9) rfl dX3_edit_4 ?_
  refine lv_iconst (v := 1) hx hb dX3_edit_7 (by decide) ?_
  refine lv_iadd hx hb dX3_edit_8 ?_
  refine lv_topi (fun x_9 ex_9 => ?_)
  refine lv_istore_n (lv' := [(2, .int x_9), (0, .ref a_ed), (1, .int x0)]) hx hb dX3_edit_9 rfl hl (by decide) rfl (fun ls hl => ?_)
  refine lv_aload_n hx hb dX3_edit_10 rfl (lv_at hl 1 rfl) ?_
  refine va_get (D := D) (ci := 3) (v := .ref a_mc) (C := RX3) (T := TX3) (N := 11) hx hb hts in_X3 hown hK hP 0 rfl rfl 0 (by decide) q_1 (fun _ h9 => h9) rfl dX3_edit_11 ?_
  refine lv_aload_n hx hb dX3_edit_14 rfl (lv_at hl 1 rfl) ?_
  refine va_get (D := D) (ci := 3) (v := .ref a_ins) (C := RX3) (T := TX3) (N := 11) hx hb hts in_X3 hown hK hP 0 rfl rfl 1 (by decide) q_0 (fun _ h9 => h9) rfl dX3_edit_15 ?_
  refine va_getN (D := D) (ci := 4) (v := .int v_a) (C := RX4) (T := TX4) (N := 8) hx hb hts in_X4 hown hK hP 1 rfl rfl 6 (by decide) n_1 (fun _ h9 => h9) rfl dX3_edit_18 ?_
  refine lv_iload_n hx hb dX3_edit_21 rfl (lv_at hl 0 rfl) ?_
  refine lv_iconst (v := 1) hx hb dX3_edit_22 (by decide) ?_
  have hPc : va_P D vwCl (wX5_demand cI cB a_mc a_me a_ps a_by a_ks a_rg v_fault v_word v_kF) H := hP.sub [2, 3, 4, 6] rfl
  have hDc : va_D A (wX5_demand cI cB a_mc a_me a_ps a_by a_ks a_rg v_fault v_word v_kF) := hD.sub [2, 3, 4, 6] (by decide) rfl
  have hFc := va_free (wc := (wX5_demand cI cB a_mc a_me a_ps a_by a_ks a_rg v_fault v_word v_kF)) hD hS hA [2, 3, 4, 6] rfl
  refine va_callv (va_runV (As := [.int v_a, .int x_9, .int 1]) (rest := []) ⟨hx, hb, hml, hown, hts⟩ (kX5_demand l D cI cB a_mc a_me a_ps a_by a_ks a_rg H.size v_fault v_word v_kF v_a x_9 1) (cwV 3 hts (gd_V wd_296 wd_106 wd_107 wd_24 wd_93) rfl rfl rfl hdX5_demand ⟨Nat.le_of_ble_eq_true rfl, Nat.le_of_ble_eq_true rfl⟩) (preV_std (ci := 5) (q0 := 0) hPc hK hDc hNW rfl rfl) rfl rfl hl.1 rfl (lv_room (Nat.le_of_ble_eq_true rfl)) dX3_edit_23 ⟨Nat.zero_le _, Nat.zero_le _⟩) hS (fun q _ h => hFc q h) hFc (fun u_23 t9 H1 locs ht9 hvm9 hw9 hB9 hz9 hk9 hS => ?_)
  have eu_23 : u_23 = fX5_demand v_a x_9 1 v_fault v_word v_kF := hw9
  obtain ⟨hP, hD⟩ := back_std (w1 := (wX5_demand cI cB a_mc a_me a_ps a_by a_ks a_rg u_23 v_word v_kF)) (w2 := (wX3_edit cI cB a_ed a_ins a_mc a_me a_ps a_by a_ks a_rg a_made v_fill v_on v_fnz v_next v_sec v_sab v_mark v_op v_i v_r v_s v_a v_b u_23 v_word v_bF v_kF v_rF v_madeF)) (wr := [(a_ed, .inr (3, [.ref a_mc, .ref a_ins, .ref a_me, .ref a_made, .int v_fill, .int v_on, .int v_fnz, .int v_next, .int v_sec, .int v_sab, .int v_mark])), (a_ins, .inr (4, [.ref a_mc, .ref a_me, .int v_op, .int v_i, .int v_r, .int v_s, .int v_a, .int v_b])), (a_by, .inl (cB, 8192, .inl v_bF)), (a_rg, .inl (cI, 16, .inl v_rF)), (a_made, .inl (cI, 256, .inl v_madeF))]) hP hD [2, 3, 4, 6] [0, 1, 5, 7, 8] [0, 1, 5, 6, 7, 2, 8, 3, 4] rfl rfl (by decide) (by decide) hk9 hFc hB9 ht9 (by decide) rfl
  clear hB9 hk9 hz9 hvm9 ht9 hFc hPc hDc
  generalize H1 = H at hP hS ⊢
  refine lv_aload_n hx hb dX3_edit_26 rfl (lv_at hl 1 rfl) ?_
  have hPc : va_P D vwCl (wX3_begin cI cB a_ed a_ins a_mc a_me a_by a_ks a_made v_fill v_on v_fnz v_next v_sec v_sab v_mark v_op v_i v_r v_s v_a v_b v_bF) H := hP.sub [0, 1, 3, 5] rfl
  have hDc : va_D A (wX3_begin cI cB a_ed a_ins a_mc a_me a_by a_ks a_made v_fill v_on v_fnz v_next v_sec v_sab v_mark v_op v_i v_r v_s v_a v_b v_bF) := hD.sub [0, 1, 3, 5] (by decide) rfl
  have hFc := va_free (wc := (wX3_begin cI cB a_ed a_ins a_mc a_me a_by a_ks a_made v_fill v_on v_fnz v_next v_sec v_sab v_mark v_op v_i v_r v_s v_a v_b v_bF)) hD hS hA [0, 1, 3, 5] rfl
  refine va_callv (va_runV (As := []) (rest := []) ⟨hx, hb, hml, hown, hts⟩ (kX3_begin l D cI cB a_ed a_ins a_mc a_me a_by a_ks a_made H.size v_fill v_on v_fnz v_next v_sec v_sab v_mark v_op v_i v_r v_s v_a v_b v_bF ) (cwV 0 hts (gd_V wd_312 wd_313 wd_314 wd_305 wd_286) rfl rfl rfl hdX3_begin ⟨Nat.le_of_ble_eq_true rfl, Nat.le_of_ble_eq_true rfl⟩) (preV_std (ci := 3) (q0 := 0) hPc hK hDc hNW rfl rfl) rfl rfl hl.1 rfl (lv_room (Nat.le_of_ble_eq_true rfl)) dX3_edit_27 ⟨Nat.zero_le _, Nat.zero_le _⟩) hS (fun q _ h => hFc q h) hFc (fun u_27 t9 H1 locs ht9 hvm9 hw9 hB9 hz9 hk9 hS => ?_)
  have eu_27 : u_27 = fX3_begin v_fill v_on v_fnz v_next v_sec v_mark v_a v_b v_bF := hw9
  obtain ⟨hP, hD⟩ := back_std (w1 := (wX3_begin cI cB a_ed a_ins a_mc a_me a_by a_ks a_made u_27.1 u_27.2.1 u_27.2.2.1 u_27.2.2.2.1 u_27.2.2.2.2.1 v_sab u_27.2.2.2.2.2 v_op v_i v_r v_s v_a v_b v_bF)) (w2 := (wX3_edit cI cB a_ed a_ins a_mc a_me a_ps a_by a_ks a_rg a_made u_27.1 u_27.2.1 u_27.2.2.1 u_27.2.2.2.1 u_27.2.2.2.2.1 v_sab u_27.2.2.2.2.2 v_op v_i v_r v_s v_a v_b u_23 v_word v_bF v_kF v_rF v_madeF)) (wr := [(a_mc, .inr (5, [.ref a_me, .ref a_ps, .ref a_rg, .int u_23])), (a_ps, .inr (7, [.long v_word])), (a_ks, .inl (cI, 4, .inl v_kF)), (a_rg, .inl (cI, 16, .inl v_rF)), (a_made, .inl (cI, 256, .inl v_madeF))]) hP hD [0, 1, 3, 5] [2, 4, 6, 7, 8] [5, 6, 0, 7, 1, 8, 2, 3, 4] rfl rfl (by decide) (by decide) hk9 hFc hB9 ht9 (by decide) rfl
  clear hB9 hk9 hz9 hvm9 ht9 hFc hPc hDc
  generalize H1 = H at hP hS ⊢
  refine lv_iconst (v := 0) hx hb dX3_edit_30 (by decide) ?_
  refine lv_istore_n (lv' := [(3, .int 0), (2, .int x_9), (0, .ref a_ed), (1, .int x0)]) hx hb dX3_edit_31 rfl hl (by decide) rfl (fun ls hl => ?_)
  obtain ⟨g_32, eg_32⟩ : ∃ z : (Int32 × Int32 × Int32 × Int32 × Int32 × Int32 × Int32 × (Nat → Int32) × Int32), z = LX3_edit_32 v_word v_a v_bF v_kF x_9 u_27 (msU x_9 0 + 1) (u_27.2.1, u_27.2.2.1, u_27.2.2.2.1, u_27.2.2.2.2.1, v_sab, u_27.2.2.2.2.2, u_23, v_madeF, 0) := ⟨_, rfl⟩
  have K_32_0 : ∀ (H : Heap) (locs : List Loc), va_P D vwCl (wX3_edit cI cB a_ed a_ins a_mc a_me a_ps a_by a_ks a_rg a_made u_27.1 g_32.1 g_32.2.1 g_32.2.2.1 g_32.2.2.2.1 g_32.2.2.2.2.1 g_32.2.2.2.2.2.1 v_op v_i v_r v_s v_a v_b g_32.2.2.2.2.2.2.1 v_word v_bF v_kF v_rF g_32.2.2.2.2.2.2.2.1) H → va_D A (wX3_edit cI cB a_ed a_ins a_mc a_me a_ps a_by a_ks a_rg a_made u_27.1 g_32.1 g_32.2.1 g_32.2.2.1 g_32.2.2.2.1 g_32.2.2.2.2.1 g_32.2.2.2.2.2.1 v_op v_i v_r v_s v_a v_b g_32.2.2.2.2.2.2.1 v_word v_bF v_kF v_rF g_32.2.2.2.2.2.2.2.1) → va_S A s.heap H locs → ∀ (ls : Array Slot), lv_has ls 4 [(0, .ref a_ed), (1, .int x0), (2, .int x_9), (3, .int g_32.2.2.2.2.2.2.2.2)] → W p l e rmX3_edit s m ([.ref a_ed, .int x0] : List Value).toArray below meth c H locs 0 0 (MQ below (qX3_edit D cI cB a_ed a_ins a_mc a_me a_ps a_by a_ks a_rg a_made v_fill v_on v_fnz v_next v_sec v_sab v_mark v_op v_i v_r v_s v_a v_b v_fault v_word v_bF v_kF v_rF v_madeF x0 A) ([.ref a_ed, .int x0] : List Value).toArray s 0 0 A) (F0 m 76 ls []) := by
    intro H locs hP hD hS ls hl
    refine lv_aload_n hx hb dX3_edit_76 rfl (lv_at hl 0 rfl) ?_
    refine va_get (D := D) (ci := 3) (v := .ref a_mc) (C := RX3) (T := TX3) (N := 11) hx hb hts in_X3 hown hK hP 0 rfl rfl 0 (by decide) q_1 (fun _ h9 => h9) rfl dX3_edit_77 ?_
    have hPc : va_P D vwCl (wX5_fine cI cB a_mc a_me a_ps a_rg g_32.2.2.2.2.2.2.1) H := hP.sub [2] rfl
    have hDc : va_D A (wX5_fine cI cB a_mc a_me a_ps a_rg g_32.2.2.2.2.2.2.1) := hD.sub [2] (by decide) rfl
    have hFc := va_free (wc := (wX5_fine cI cB a_mc a_me a_ps a_rg g_32.2.2.2.2.2.2.1)) hD hS hA [2] rfl
    refine va_calli (va_runV (As := []) (rest := []) ⟨hx, hb, hml, hown, hts⟩ (kX5_fine l D cI cB a_mc a_me a_ps a_rg H.size g_32.2.2.2.2.2.2.1 ) (cwV 0 hts (gd_V wd_315 wd_73 wd_74 wd_24 wd_66) rfl rfl rfl hdX5_fine ⟨Nat.le_of_ble_eq_true rfl, Nat.le_of_ble_eq_true rfl⟩) (preV_std (ci := 5) (q0 := 0) hPc hK hDc hNW rfl rfl) rfl rfl hl.1 rfl (lv_room (Nat.le_of_ble_eq_true rfl)) dX3_edit_80 ⟨Nat.zero_le _, Nat.zero_le _⟩) hS (fun q _ h => hFc q h) hFc (fun r_80 u_80 t9 H1 locs ht9 hvm9 hw9 hB9 hz9 hk9 hS => ?_)
    have er_80 : r_80 = fX5_fine g_32.2.2.2.2.2.2.1 := hw9
    have zr_80 : r_80 = 0 ∨ r_80 = 1 := by rw [er_80]; exact zX5_fine _
    obtain ⟨hP, hD⟩ := back_std (w1 := (wX5_fine cI cB a_mc a_me a_ps a_rg g_32.2.2.2.2.2.2.1)) (w2 := (wX3_edit cI cB a_ed a_ins a_mc a_me a_ps a_by a_ks a_rg a_made u_27.1 g_32.1 g_32.2.1 g_32.2.2.1 g_32.2.2.2.1 g_32.2.2.2.2.1 g_32.2.2.2.2.2.1 v_op v_i v_r v_s v_a v_b g_32.2.2.2.2.2.2.1 v_word v_bF v_kF v_rF g_32.2.2.2.2.2.2.2.1)) (wr := [(a_ed, .inr (3, [.ref a_mc, .ref a_ins, .ref a_me, .ref a_made, .int u_27.1, .int g_32.1, .int g_32.2.1, .int g_32.2.2.1, .int g_32.2.2.2.1, .int g_32.2.2.2.2.1, .int g_32.2.2.2.2.2.1])), (a_ins, .inr (4, [.ref a_mc, .ref a_me, .int v_op, .int v_i, .int v_r, .int v_s, .int v_a, .int v_b])), (a_me, .inr (6, [.ref a_by, .ref a_ks])), (a_ps, .inr (7, [.long v_word])), (a_by, .inl (cB, 8192, .inl v_bF)), (a_ks, .inl (cI, 4, .inl v_kF)), (a_rg, .inl (cI, 16, .inl v_rF)), (a_made, .inl (cI, 256, .inl g_32.2.2.2.2.2.2.2.1))]) hP hD [2] [0, 1, 3, 4, 5, 6, 7, 8] [0, 1, 8, 2, 3, 4, 5, 6, 7] rfl rfl (by decide) (by decide) hk9 hFc hB9 ht9 (by decide) rfl
    clear hB9 hk9 hz9 hvm9 ht9 hFc hPc hDc
    generalize H1 = H at hP hS ⊢
    refine lv_if_ne (tgt := 87) hx hb dX3_edit_83 (by decide) (fun c_83 => ?_) (fun c_83 => ?_)
    · skip
      refine lv_iconst (v := 0) hx hb dX3_edit_87 (by decide) ?_
      refine lv_istore_n (lv' := [(3, .int 0), (0, .ref a_ed), (1, .int x0), (2, .int x_9)]) hx hb dX3_edit_88 rfl hl (by decide) rfl (fun ls hl => ?_)
      obtain ⟨g_89, eg_89⟩ : ∃ z : ((Nat → Int32) × Int32), z = LX3_edit_89 v_a x_9 g_32 (msU x_9 0 + 1) (v_bF, 0) := ⟨_, rfl⟩
      have K_89_0 : ∀ (H : Heap) (locs : List Loc), va_P D vwCl (wX3_edit cI cB a_ed a_ins a_mc a_me a_ps a_by a_ks a_rg a_made u_27.1 g_32.1 g_32.2.1 g_32.2.2.1 g_32.2.2.2.1 g_32.2.2.2.2.1 g_32.2.2.2.2.2.1 v_op v_i v_r v_s v_a v_b g_32.2.2.2.2.2.2.1 v_word g_89.1 v_kF v_rF g_32.2.2.2.2.2.2.2.1) H → va_D A (wX3_edit cI cB a_ed a_ins a_mc a_me a_ps a_by a_ks a_rg a_made u_27.1 g_32.1 g_32.2.1 g_32.2.2.1 g_32.2.2.2.1 g_32.2.2.2.2.1 g_32.2.2.2.2.2.1 v_op v_i v_r v_s v_a v_b g_32.2.2.2.2.2.2.1 v_word g_89.1 v_kF v_rF g_32.2.2.2.2.2.2.2.1) → va_S A s.heap H locs → ∀ (ls : Array Slot), lv_has ls 4 [(0, .ref a_ed), (1, .int x0), (2, .int x_9), (3, .int g_89.2)] → W p l e rmX3_edit s m ([.ref a_ed, .int x0] : List Value).toArray below meth c H locs 0 0 (MQ below (qX3_edit D cI cB a_ed a_ins a_mc a_me a_ps a_by a_ks a_rg a_made v_fill v_on v_fnz v_next v_sec v_sab v_mark v_op v_i v_r v_s v_a v_b v_fault v_word v_bF v_kF v_rF v_madeF x0 A) ([.ref a_ed, .int x0] : List Value).toArray s 0 0 A) (F0 m 126 ls []) := by
        intro H locs hP hD hS ls hl
        refine lv_iload_n hx hb dX3_edit_126 rfl (lv_at hl 1 rfl) ?_
        have J_150 : ∀ (m_150 : (Nat → Int32)), m_150 = (if x0 = 0 then (v_rF) else (if g_32.2.2.2.2.2.1 = (-1) then (v_rF) else (let u_147 := fX5_setLastAddress 1 g_32.2.2.2.2.2.1 v_rF; u_147))) → ∀ (H : Heap) (locs : List Loc), va_P D vwCl (wX3_edit cI cB a_ed a_ins a_mc a_me a_ps a_by a_ks a_rg a_made u_27.1 g_32.1 g_32.2.1 g_32.2.2.1 g_32.2.2.2.1 g_32.2.2.2.2.1 g_32.2.2.2.2.2.1 v_op v_i v_r v_s v_a v_b g_32.2.2.2.2.2.2.1 v_word g_89.1 v_kF m_150 g_32.2.2.2.2.2.2.2.1) H → va_D A (wX3_edit cI cB a_ed a_ins a_mc a_me a_ps a_by a_ks a_rg a_made u_27.1 g_32.1 g_32.2.1 g_32.2.2.1 g_32.2.2.2.1 g_32.2.2.2.2.1 g_32.2.2.2.2.2.1 v_op v_i v_r v_s v_a v_b g_32.2.2.2.2.2.2.1 v_word g_89.1 v_kF m_150 g_32.2.2.2.2.2.2.2.1) → va_S A s.heap H locs → ∀ (ls : Array Slot), lv_has ls 4 [(0, .ref a_ed), (1, .int x0), (2, .int x_9), (3, .int g_89.2)] → W p l e rmX3_edit s m ([.ref a_ed, .int x0] : List Value).toArray below meth c H locs 0 0 (MQ below (qX3_edit D cI cB a_ed a_ins a_mc a_me a_ps a_by a_ks a_rg a_made v_fill v_on v_fnz v_next v_sec v_sab v_mark v_op v_i v_r v_s v_a v_b v_fault v_word v_bF v_kF v_rF v_madeF x0 A) ([.ref a_ed, .int x0] : List Value).toArray s 0 0 A) (F0 m 150 ls []) := by
          intro m_150 em_150 H locs hP hD hS ls hl
          try dsimp only at em_150
          refine lv_aload_n hx hb dX3_edit_150 rfl (lv_at hl 0 rfl) ?_
          refine va_get (D := D) (ci := 3) (v := .ref a_mc) (C := RX3) (T := TX3) (N := 11) hx hb hts in_X3 hown hK hP 0 rfl rfl 0 (by decide) q_1 (fun _ h9 => h9) rfl dX3_edit_151 ?_
          refine va_getN (D := D) (ci := 5) (v := .ref a_ps) (C := RX5) (T := TX5) (N := 4) hx hb hts in_X5 hown hK hP 2 rfl rfl 1 (by decide) n_2 (fun _ h9 => h9) rfl dX3_edit_154 ?_
          refine lv_aload_n hx hb dX3_edit_157 rfl (lv_at hl 0 rfl) ?_
          refine va_get (D := D) (ci := 3) (v := .int g_32.2.1) (C := RX3) (T := TX3) (N := 11) hx hb hts in_X3 hown hK hP 0 rfl rfl 6 (by decide) q_5 (fun _ h9 => h9) rfl dX3_edit_158 ?_
          have J_180 : ∀ (m_180 : Int32), m_180 = (if g_32.2.1 = 0 then (0) else (if g_32.1 = 0 then (2) else (1))) → ∀ (H : Heap) (locs : List Loc), va_P D vwCl (wX3_edit cI cB a_ed a_ins a_mc a_me a_ps a_by a_ks a_rg a_made u_27.1 g_32.1 g_32.2.1 g_32.2.2.1 g_32.2.2.2.1 g_32.2.2.2.2.1 g_32.2.2.2.2.2.1 v_op v_i v_r v_s v_a v_b g_32.2.2.2.2.2.2.1 v_word g_89.1 v_kF m_150 g_32.2.2.2.2.2.2.2.1) H → va_D A (wX3_edit cI cB a_ed a_ins a_mc a_me a_ps a_by a_ks a_rg a_made u_27.1 g_32.1 g_32.2.1 g_32.2.2.1 g_32.2.2.2.1 g_32.2.2.2.2.1 g_32.2.2.2.2.2.1 v_op v_i v_r v_s v_a v_b g_32.2.2.2.2.2.2.1 v_word g_89.1 v_kF m_150 g_32.2.2.2.2.2.2.2.1) → va_S A s.heap H locs → ∀ (ls : Array Slot), lv_has ls 4 [(0, .ref a_ed), (1, .int x0), (2, .int x_9), (3, .int g_89.2)] → W p l e rmX3_edit s m ([.ref a_ed, .int x0] : List Value).toArray below meth c H locs 0 0 (MQ below (qX3_edit D cI cB a_ed a_ins a_mc a_me a_ps a_by a_ks a_rg a_made v_fill v_on v_fnz v_next v_sec v_sab v_mark v_op v_i v_r v_s v_a v_b v_fault v_word v_bF v_kF v_rF v_madeF x0 A) ([.ref a_ed, .int x0] : List Value).toArray s 0 0 A) (F0 m 180 ls [.int m_180, .ref a_ps]) := by
            intro m_180 em_180 H locs hP hD hS ls hl
            try dsimp only at em_180
            have hPc : va_P D vwCl (wX7_setCondition cI cB a_ps v_word) H := hP.sub [4] rfl
            have hDc : va_D A (wX7_setCondition cI cB a_ps v_word) := hD.sub [4] (by decide) rfl
            have hFc := va_free (wc := (wX7_setCondition cI cB a_ps v_word)) hD hS hA [4] rfl
            refine va_callv (va_runV (As := [.int m_180]) (rest := []) ⟨hx, hb, hml, hown, hts⟩ (kX7_setCondition l D cI cB a_ps H.size v_word m_180) (cwV 1 hts (gd_V wd_323 wd_241 wd_242 wd_15 wd_236) rfl rfl rfl hdX7_setCondition ⟨Nat.le_of_ble_eq_true rfl, Nat.le_of_ble_eq_true rfl⟩) (preV_std (ci := 7) (q0 := 0) hPc hK hDc hNW rfl rfl) rfl rfl hl.1 rfl (lv_room (Nat.le_of_ble_eq_true rfl)) dX3_edit_180 ⟨Nat.zero_le _, Nat.zero_le _⟩) hS (fun q _ h => hFc q h) hFc (fun u_180 t9 H1 locs ht9 hvm9 hw9 hB9 hz9 hk9 hS => ?_)
            have eu_180 : u_180 = fX7_setCondition m_180 v_word := hw9
            obtain ⟨hP, hD⟩ := back_std (w1 := (wX7_setCondition cI cB a_ps u_180)) (w2 := (wX3_edit cI cB a_ed a_ins a_mc a_me a_ps a_by a_ks a_rg a_made u_27.1 g_32.1 g_32.2.1 g_32.2.2.1 g_32.2.2.2.1 g_32.2.2.2.2.1 g_32.2.2.2.2.2.1 v_op v_i v_r v_s v_a v_b g_32.2.2.2.2.2.2.1 u_180 g_89.1 v_kF m_150 g_32.2.2.2.2.2.2.2.1)) (wr := [(a_ed, .inr (3, [.ref a_mc, .ref a_ins, .ref a_me, .ref a_made, .int u_27.1, .int g_32.1, .int g_32.2.1, .int g_32.2.2.1, .int g_32.2.2.2.1, .int g_32.2.2.2.2.1, .int g_32.2.2.2.2.2.1])), (a_ins, .inr (4, [.ref a_mc, .ref a_me, .int v_op, .int v_i, .int v_r, .int v_s, .int v_a, .int v_b])), (a_mc, .inr (5, [.ref a_me, .ref a_ps, .ref a_rg, .int g_32.2.2.2.2.2.2.1])), (a_me, .inr (6, [.ref a_by, .ref a_ks])), (a_by, .inl (cB, 8192, .inl g_89.1)), (a_ks, .inl (cI, 4, .inl v_kF)), (a_rg, .inl (cI, 16, .inl m_150)), (a_made, .inl (cI, 256, .inl g_32.2.2.2.2.2.2.2.1))]) hP hD [4] [0, 1, 2, 3, 5, 6, 7, 8] [0, 1, 2, 3, 8, 4, 5, 6, 7] rfl rfl (by decide) (by decide) hk9 hFc hB9 ht9 (by decide) rfl
            clear hB9 hk9 hz9 hvm9 ht9 hFc hPc hDc
            generalize H1 = H at hP hS ⊢
            have hf9 : (u_27.1, g_32.1, g_32.2.1, g_32.2.2.1, g_32.2.2.2.1, g_32.2.2.2.2.1, g_32.2.2.2.2.2.1, g_32.2.2.2.2.2.2.1, u_180, g_89.1, m_150, g_32.2.2.2.2.2.2.2.1) = fX3_edit x0 v_fill v_on v_fnz v_next v_sec v_sab v_mark v_i v_a v_b v_fault v_word v_bF v_kF v_rF v_madeF := by subst ex_9; simp only [fX3_edit, ← eu_23, ← eu_27, ← eg_32, ← er_80, ← eg_89, ← em_150, ← em_180, ← eu_180]; (try simp only [if_neg c_83])
            exact W.vret hx hb hr (fun t9 ht9 hW9 => ⟨⟨(u_27.1, g_32.1, g_32.2.1, g_32.2.2.1, g_32.2.2.2.1, g_32.2.2.2.2.1, g_32.2.2.2.2.2.1, g_32.2.2.2.2.2.2.1, u_180, g_89.1, m_150, g_32.2.2.2.2.2.2.2.1), rfl, hf9, ⟨by rw [ht9]; exact hP, va_K.moved hW9.alike hK, hD⟩⟩, hS.F ht9⟩) hS.2.2 dX3_edit_183
          refine lv_if_ne (tgt := 168) hx hb dX3_edit_161 (by decide) (fun c_161 => ?_) (fun c_161 => ?_)
          · skip
            refine lv_aload_n hx hb dX3_edit_168 rfl (lv_at hl 0 rfl) ?_
            refine va_get (D := D) (ci := 3) (v := .int g_32.1) (C := RX3) (T := TX3) (N := 11) hx hb hts in_X3 hown hK hP 0 rfl rfl 5 (by decide) q_6 (fun _ h9 => h9) rfl dX3_edit_169 ?_
            refine lv_if_eq (tgt := 179) hx hb dX3_edit_172 (by decide) (fun c_172 => ?_) (fun c_172 => ?_)
            · skip
              refine lv_iconst (v := 2) hx hb dX3_edit_179 (by decide) ?_
              exact J_180 2 (by (try simp only [if_neg c_161, if_pos c_172])) _ _ hP hD hS ls (lv_sub hl [0, 1, 2, 3] rfl)
            · skip
              refine lv_iconst (v := 1) hx hb dX3_edit_175 (by decide) ?_
              refine lv_goto (tgt := 180) hx hb dX3_edit_176 (by decide) ?_
              exact J_180 1 (by (try simp only [if_neg c_161, if_neg c_172])) _ _ hP hD hS ls (lv_sub hl [0, 1, 2, 3] rfl)
          · skip
            refine lv_iconst (v := 0) hx hb dX3_edit_164 (by decide) ?_
            refine lv_goto (tgt := 180) hx hb dX3_edit_165 (by decide) ?_
            exact J_180 0 (by (try simp only [if_pos c_161])) _ _ hP hD hS ls (lv_sub hl [0, 1, 2, 3] rfl)
        refine lv_if_eq (tgt := 150) hx hb dX3_edit_127 (by decide) (fun c_127 => ?_) (fun c_127 => ?_)
        · skip
          exact J_150 v_rF (by (try simp only [if_pos c_127])) _ _ hP hD hS ls (lv_sub hl [0, 1, 2, 3] rfl)
        · skip
          refine lv_aload_n hx hb dX3_edit_130 rfl (lv_at hl 0 rfl) ?_
          refine va_get (D := D) (ci := 3) (v := .int g_32.2.2.2.2.2.1) (C := RX3) (T := TX3) (N := 11) hx hb hts in_X3 hown hK hP 0 rfl rfl 10 (by decide) q_4 (fun _ h9 => h9) rfl dX3_edit_131 ?_
          refine lv_iconst (v := (-1)) hx hb dX3_edit_134 (by decide) ?_
          refine lv_icmp_eq (tgt := 150) hx hb dX3_edit_135 (by decide) (fun c_135 => ?_) (fun c_135 => ?_)
          · skip
            exact J_150 v_rF (by (try simp only [if_neg c_127, if_pos c_135])) _ _ hP hD hS ls (lv_sub hl [0, 1, 2, 3] rfl)
          · skip
            refine lv_aload_n hx hb dX3_edit_138 rfl (lv_at hl 0 rfl) ?_
            refine va_get (D := D) (ci := 3) (v := .ref a_mc) (C := RX3) (T := TX3) (N := 11) hx hb hts in_X3 hown hK hP 0 rfl rfl 0 (by decide) q_1 (fun _ h9 => h9) rfl dX3_edit_139 ?_
            refine lv_iconst (v := 1) hx hb dX3_edit_142 (by decide) ?_
            refine lv_aload_n hx hb dX3_edit_143 rfl (lv_at hl 0 rfl) ?_
            refine va_get (D := D) (ci := 3) (v := .int g_32.2.2.2.2.2.1) (C := RX3) (T := TX3) (N := 11) hx hb hts in_X3 hown hK hP 0 rfl rfl 10 (by decide) q_4 (fun _ h9 => h9) rfl dX3_edit_144 ?_
            have hPc : va_P D vwCl (wX5_setLastAddress cI cB a_mc a_me a_ps a_rg g_32.2.2.2.2.2.2.1 v_rF) H := hP.sub [2, 7] rfl
            have hDc : va_D A (wX5_setLastAddress cI cB a_mc a_me a_ps a_rg g_32.2.2.2.2.2.2.1 v_rF) := hD.sub [2, 7] (by decide) rfl
            have hFc := va_free (wc := (wX5_setLastAddress cI cB a_mc a_me a_ps a_rg g_32.2.2.2.2.2.2.1 v_rF)) hD hS hA [2, 7] rfl
            refine va_callv (va_runV (As := [.int 1, .int g_32.2.2.2.2.2.1]) (rest := []) ⟨hx, hb, hml, hown, hts⟩ (kX5_setLastAddress l D cI cB a_mc a_me a_ps a_rg H.size g_32.2.2.2.2.2.2.1 v_rF 1 g_32.2.2.2.2.2.1) (cwV 2 hts (gd_V wd_320 wd_321 wd_322 wd_24 wd_310) rfl rfl rfl hdX5_setLastAddress ⟨Nat.le_of_ble_eq_true rfl, Nat.le_of_ble_eq_true rfl⟩) (preV_std (ci := 5) (q0 := 0) hPc hK hDc hNW rfl rfl) rfl rfl hl.1 rfl (lv_room (Nat.le_of_ble_eq_true rfl)) dX3_edit_147 ⟨Nat.zero_le _, Nat.zero_le _⟩) hS (fun q _ h => hFc q h) hFc (fun u_147 t9 H1 locs ht9 hvm9 hw9 hB9 hz9 hk9 hS => ?_)
            have eu_147 : u_147 = fX5_setLastAddress 1 g_32.2.2.2.2.2.1 v_rF := hw9
            obtain ⟨hP, hD⟩ := back_std (w1 := (wX5_setLastAddress cI cB a_mc a_me a_ps a_rg g_32.2.2.2.2.2.2.1 u_147)) (w2 := (wX3_edit cI cB a_ed a_ins a_mc a_me a_ps a_by a_ks a_rg a_made u_27.1 g_32.1 g_32.2.1 g_32.2.2.1 g_32.2.2.2.1 g_32.2.2.2.2.1 g_32.2.2.2.2.2.1 v_op v_i v_r v_s v_a v_b g_32.2.2.2.2.2.2.1 v_word g_89.1 v_kF u_147 g_32.2.2.2.2.2.2.2.1)) (wr := [(a_ed, .inr (3, [.ref a_mc, .ref a_ins, .ref a_me, .ref a_made, .int u_27.1, .int g_32.1, .int g_32.2.1, .int g_32.2.2.1, .int g_32.2.2.2.1, .int g_32.2.2.2.2.1, .int g_32.2.2.2.2.2.1])), (a_ins, .inr (4, [.ref a_mc, .ref a_me, .int v_op, .int v_i, .int v_r, .int v_s, .int v_a, .int v_b])), (a_me, .inr (6, [.ref a_by, .ref a_ks])), (a_ps, .inr (7, [.long v_word])), (a_by, .inl (cB, 8192, .inl g_89.1)), (a_ks, .inl (cI, 4, .inl v_kF)), (a_made, .inl (cI, 256, .inl g_32.2.2.2.2.2.2.2.1))]) hP hD [2, 7] [0, 1, 3, 4, 5, 6, 8] [0, 1, 7, 2, 3, 4, 5, 8, 6] rfl rfl (by decide) (by decide) hk9 hFc hB9 ht9 (by decide) rfl
            clear hB9 hk9 hz9 hvm9 ht9 hFc hPc hDc
            generalize H1 = H at hP hS ⊢
            exact J_150 u_147 (by (try simp only [← eu_147]); (try simp only [if_neg c_127, if_neg c_135])) _ _ hP hD hS ls (lv_sub hl [0, 1, 2, 3] rfl)
      have lp_89 : ∀ (n9 : Nat) (w_89 : ((Nat → Int32) × Int32)), msU x_9 w_89.2 < n9 → LX3_edit_89 v_a x_9 g_32 n9 w_89 = g_89 → ∀ (H : Heap) (locs : List Loc), va_P D vwCl (wX3_edit cI cB a_ed a_ins a_mc a_me a_ps a_by a_ks a_rg a_made u_27.1 g_32.1 g_32.2.1 g_32.2.2.1 g_32.2.2.2.1 g_32.2.2.2.2.1 g_32.2.2.2.2.2.1 v_op v_i v_r v_s v_a v_b g_32.2.2.2.2.2.2.1 v_word w_89.1 v_kF v_rF g_32.2.2.2.2.2.2.2.1) H → va_D A (wX3_edit cI cB a_ed a_ins a_mc a_me a_ps a_by a_ks a_rg a_made u_27.1 g_32.1 g_32.2.1 g_32.2.2.1 g_32.2.2.2.1 g_32.2.2.2.2.1 g_32.2.2.2.2.2.1 v_op v_i v_r v_s v_a v_b g_32.2.2.2.2.2.2.1 v_word w_89.1 v_kF v_rF g_32.2.2.2.2.2.2.2.1) → va_S A s.heap H locs → ∀ (ls : Array Slot), lv_has ls 4 [(0, .ref a_ed), (1, .int x0), (2, .int x_9), (3, .int w_89.2)] → W p l e rmX3_edit s m ([.ref a_ed, .int x0] : List Value).toArray below meth c H locs 0 0 (MQ below (qX3_edit D cI cB a_ed a_ins a_mc a_me a_ps a_by a_ks a_rg a_made v_fill v_on v_fnz v_next v_sec v_sab v_mark v_op v_i v_r v_s v_a v_b v_fault v_word v_bF v_kF v_rF v_madeF x0 A) ([.ref a_ed, .int x0] : List Value).toArray s 0 0 A) (F0 m 89 ls []) := by
        intro n9
        induction n9 with
        | zero => intro w_89 hm9; exact absurd hm9 (Nat.not_lt_zero _)
        | succ n9 ih =>
          intro w_89 hm9 hL9 H locs hP hD hS ls hl
          refine lv_iload_n hx hb dX3_edit_89 rfl (lv_at hl 3 rfl) ?_
          refine lv_iload_n hx hb dX3_edit_90 rfl (lv_at hl 2 rfl) ?_
          refine lv_icmp_ge (tgt := 126) hx hb dX3_edit_91 (by decide) (fun c_91 => ?_) (fun c_91 => ?_)
          · skip
            have hg9 : (w_89.1, w_89.2) = g_89 := by rw [← hL9]; simp only [LX3_edit_89]; (try simp only [if_pos c_91])
            subst hg9
            exact K_89_0 _ _ hP hD hS ls (lv_sub hl [0, 1, 2, 3] rfl)
          · skip
            refine lv_aload_n hx hb dX3_edit_94 rfl (lv_at hl 0 rfl) ?_
            refine va_get (D := D) (ci := 3) (v := .ref a_me) (C := RX3) (T := TX3) (N := 11) hx hb hts in_X3 hown hK hP 0 rfl rfl 2 (by decide) q_3 (fun _ h9 => h9) rfl dX3_edit_95 ?_
            refine lv_aload_n hx hb dX3_edit_98 rfl (lv_at hl 0 rfl) ?_
            refine va_get (D := D) (ci := 3) (v := .ref a_ins) (C := RX3) (T := TX3) (N := 11) hx hb hts in_X3 hown hK hP 0 rfl rfl 1 (by decide) q_0 (fun _ h9 => h9) rfl dX3_edit_99 ?_
            refine va_getN (D := D) (ci := 4) (v := .int v_a) (C := RX4) (T := TX4) (N := 8) hx hb hts in_X4 hown hK hP 1 rfl rfl 6 (by decide) n_1 (fun _ h9 => h9) rfl dX3_edit_102 ?_
            refine lv_iload_n hx hb dX3_edit_105 rfl (lv_at hl 3 rfl) ?_
            refine lv_iadd hx hb dX3_edit_106 ?_
            refine lv_aload_n hx hb dX3_edit_107 rfl (lv_at hl 0 rfl) ?_
            refine va_get (D := D) (ci := 3) (v := .ref a_made) (C := RX3) (T := TX3) (N := 11) hx hb hts in_X3 hown hK hP 0 rfl rfl 3 (by decide) q_2 (fun _ h9 => h9) rfl dX3_edit_108 ?_
            refine lv_iload_n hx hb dX3_edit_111 rfl (lv_at hl 3 rfl) ?_
            refine lv_sipush (v := 255) hx hb dX3_edit_112 (by decide) ?_
            refine lv_iand hx hb dX3_edit_115 ?_
            refine va_iald hx hb hK hP 8 0 rfl rfl (pk_andIn _ 8 (by decide) (by decide)) dX3_edit_116 ?_
            have hPc : va_P D vwCl (wX6_set cI cB a_me a_by a_ks w_89.1) H := hP.sub [3, 5] rfl
            have hDc : va_D A (wX6_set cI cB a_me a_by a_ks w_89.1) := hD.sub [3, 5] (by decide) rfl
            have hFc := va_free (wc := (wX6_set cI cB a_me a_by a_ks w_89.1)) hD hS hA [3, 5] rfl
            refine va_callv (va_runV (As := [.int (v_a + w_89.2), .int ((g_32.2.2.2.2.2.2.2.1 ((w_89.2 &&& 255) : Int32).toNatClampNeg))]) (rest := []) ⟨hx, hb, hml, hown, hts⟩ (kX6_set l D cI cB a_me a_by a_ks H.size w_89.1 (v_a + w_89.2) (g_32.2.2.2.2.2.2.2.1 ((w_89.2 &&& 255) : Int32).toNatClampNeg)) (cwV 2 hts (gd_V wd_319 wd_151 wd_152 wd_78 wd_145) rfl rfl rfl hdX6_set ⟨Nat.le_of_ble_eq_true rfl, Nat.le_of_ble_eq_true rfl⟩) (preV_std (ci := 6) (q0 := 0) hPc hK hDc hNW rfl rfl) rfl rfl hl.1 rfl (lv_room (Nat.le_of_ble_eq_true rfl)) dX3_edit_117 ⟨Nat.zero_le _, Nat.zero_le _⟩) hS (fun q _ h => hFc q h) hFc (fun u_117 t9 H1 locs ht9 hvm9 hw9 hB9 hz9 hk9 hS => ?_)
            have eu_117 : u_117 = fX6_set (v_a + w_89.2) (g_32.2.2.2.2.2.2.2.1 ((w_89.2 &&& 255) : Int32).toNatClampNeg) w_89.1 := hw9
            obtain ⟨hP, hD⟩ := back_std (w1 := (wX6_set cI cB a_me a_by a_ks u_117)) (w2 := (wX3_edit cI cB a_ed a_ins a_mc a_me a_ps a_by a_ks a_rg a_made u_27.1 g_32.1 g_32.2.1 g_32.2.2.1 g_32.2.2.2.1 g_32.2.2.2.2.1 g_32.2.2.2.2.2.1 v_op v_i v_r v_s v_a v_b g_32.2.2.2.2.2.2.1 v_word u_117 v_kF v_rF g_32.2.2.2.2.2.2.2.1)) (wr := [(a_ed, .inr (3, [.ref a_mc, .ref a_ins, .ref a_me, .ref a_made, .int u_27.1, .int g_32.1, .int g_32.2.1, .int g_32.2.2.1, .int g_32.2.2.2.1, .int g_32.2.2.2.2.1, .int g_32.2.2.2.2.2.1])), (a_ins, .inr (4, [.ref a_mc, .ref a_me, .int v_op, .int v_i, .int v_r, .int v_s, .int v_a, .int v_b])), (a_mc, .inr (5, [.ref a_me, .ref a_ps, .ref a_rg, .int g_32.2.2.2.2.2.2.1])), (a_ps, .inr (7, [.long v_word])), (a_ks, .inl (cI, 4, .inl v_kF)), (a_rg, .inl (cI, 16, .inl v_rF)), (a_made, .inl (cI, 256, .inl g_32.2.2.2.2.2.2.2.1))]) hP hD [3, 5] [0, 1, 2, 4, 6, 7, 8] [0, 1, 2, 7, 3, 8, 4, 5, 6] rfl rfl (by decide) (by decide) hk9 hFc hB9 ht9 (by decide) rfl
            clear hB9 hk9 hz9 hvm9 ht9 hFc hPc hDc
            generalize H1 = H at hP hS ⊢
            obtain ⟨x_120, ex_120⟩ : ∃ z : Int32, z = w_89.2 + 1 := ⟨_, rfl⟩
            refine lv_iinc (v := x_120) (lv' := [(3, .int x_120), (0, .ref a_ed), (1, .int x0), (2, .int x_9)]) hx hb dX3_edit_120 hl (k := 3) rfl (by rw [ex_120]; rfl) (by decide) rfl (fun ls hl => ?_)
            refine lv_goto (tgt := 89) hx hb dX3_edit_123 (by decide) ?_
            exact ih (u_117, x_120) (by subst ex_120; subst eu_117;  exact Nat.lt_of_lt_of_le (ms_up c_91) (Nat.le_of_lt_succ hm9)) (by rw [← hL9]; subst ex_120; simp only [LX3_edit_89, ← eu_117]; (try simp only [if_neg c_91])) _ _ hP hD hS ls (lv_sub hl [1, 2, 3, 0] rfl)
      exact lp_89 (msU x_9 0 + 1) (v_bF, 0) (Nat.lt_succ_self _) eg_89.symm _ _ hP hD hS ls (lv_sub hl [1, 2, 3, 0] rfl)
    · skip
      have hf9 : (u_27.1, g_32.1, g_32.2.1, g_32.2.2.1, g_32.2.2.2.1, g_32.2.2.2.2.1, g_32.2.2.2.2.2.1, g_32.2.2.2.2.2.2.1, v_word, v_bF, v_rF, g_32.2.2.2.2.2.2.2.1) = fX3_edit x0 v_fill v_on v_fnz v_next v_sec v_sab v_mark v_i v_a v_b v_fault v_word v_bF v_kF v_rF v_madeF := by subst ex_9; simp only [fX3_edit, ← eu_23, ← eu_27, ← eg_32, ← er_80]; (try simp only [if_pos c_83])
      exact W.vret hx hb hr (fun t9 ht9 hW9 => ⟨⟨(u_27.1, g_32.1, g_32.2.1, g_32.2.2.1, g_32.2.2.2.1, g_32.2.2.2.2.1, g_32.2.2.2.2.2.1, g_32.2.2.2.2.2.2.1, v_word, v_bF, v_rF, g_32.2.2.2.2.2.2.2.1), rfl, hf9, ⟨by rw [ht9]; exact hP, va_K.moved hW9.alike hK, hD⟩⟩, hS.F ht9⟩) hS.2.2 dX3_edit_86
  have lp_32 : ∀ (n9 : Nat) (w_32 : (Int32 × Int32 × Int32 × Int32 × Int32 × Int32 × Int32 × (Nat → Int32) × Int32)), msU x_9 w_32.2.2.2.2.2.2.2.2 < n9 → LX3_edit_32 v_word v_a v_bF v_kF x_9 u_27 n9 w_32 = g_32 → ∀ (H : Heap) (locs : List Loc), va_P D vwCl (wX3_edit cI cB a_ed a_ins a_mc a_me a_ps a_by a_ks a_rg a_made u_27.1 w_32.1 w_32.2.1 w_32.2.2.1 w_32.2.2.2.1 w_32.2.2.2.2.1 w_32.2.2.2.2.2.1 v_op v_i v_r v_s v_a v_b w_32.2.2.2.2.2.2.1 v_word v_bF v_kF v_rF w_32.2.2.2.2.2.2.2.1) H → va_D A (wX3_edit cI cB a_ed a_ins a_mc a_me a_ps a_by a_ks a_rg a_made u_27.1 w_32.1 w_32.2.1 w_32.2.2.1 w_32.2.2.2.1 w_32.2.2.2.2.1 w_32.2.2.2.2.2.1 v_op v_i v_r v_s v_a v_b w_32.2.2.2.2.2.2.1 v_word v_bF v_kF v_rF w_32.2.2.2.2.2.2.2.1) → va_S A s.heap H locs → ∀ (ls : Array Slot), lv_has ls 4 [(0, .ref a_ed), (1, .int x0), (2, .int x_9), (3, .int w_32.2.2.2.2.2.2.2.2)] → W p l e rmX3_edit s m ([.ref a_ed, .int x0] : List Value).toArray below meth c H locs 0 0 (MQ below (qX3_edit D cI cB a_ed a_ins a_mc a_me a_ps a_by a_ks a_rg a_made v_fill v_on v_fnz v_next v_sec v_sab v_mark v_op v_i v_r v_s v_a v_b v_fault v_word v_bF v_kF v_rF v_madeF x0 A) ([.ref a_ed, .int x0] : List Value).toArray s 0 0 A) (F0 m 32 ls []) := by
    intro n9
    induction n9 with
    | zero => intro w_32 hm9; exact absurd hm9 (Nat.not_lt_zero _)
    | succ n9 ih =>
      intro w_32 hm9 hL9 H locs hP hD hS ls hl
      refine lv_iload_n hx hb dX3_edit_32 rfl (lv_at hl 3 rfl) ?_
      refine lv_iload_n hx hb dX3_edit_33 rfl (lv_at hl 2 rfl) ?_
      refine lv_icmp_ge (tgt := 76) hx hb dX3_edit_34 (by decide) (fun c_34 => ?_) (fun c_34 => ?_)
      · skip
        have hg9 : (w_32.1, w_32.2.1, w_32.2.2.1, w_32.2.2.2.1, w_32.2.2.2.2.1, w_32.2.2.2.2.2.1, w_32.2.2.2.2.2.2.1, w_32.2.2.2.2.2.2.2.1, w_32.2.2.2.2.2.2.2.2) = g_32 := by rw [← hL9]; simp only [LX3_edit_32]; (try simp only [if_pos c_34])
        subst hg9
        exact K_32_0 _ _ hP hD hS ls (lv_sub hl [0, 1, 2, 3] rfl)
      · skip
        refine lv_aload_n hx hb dX3_edit_37 rfl (lv_at hl 0 rfl) ?_
        refine va_get (D := D) (ci := 3) (v := .ref a_mc) (C := RX3) (T := TX3) (N := 11) hx hb hts in_X3 hown hK hP 0 rfl rfl 0 (by decide) q_1 (fun _ h9 => h9) rfl dX3_edit_38 ?_
        have hPc : va_P D vwCl (wX5_fine cI cB a_mc a_me a_ps a_rg w_32.2.2.2.2.2.2.1) H := hP.sub [2] rfl
        have hDc : va_D A (wX5_fine cI cB a_mc a_me a_ps a_rg w_32.2.2.2.2.2.2.1) := hD.sub [2] (by decide) rfl
        have hFc := va_free (wc := (wX5_fine cI cB a_mc a_me a_ps a_rg w_32.2.2.2.2.2.2.1)) hD hS hA [2] rfl
        refine va_calli (va_runV (As := []) (rest := []) ⟨hx, hb, hml, hown, hts⟩ (kX5_fine l D cI cB a_mc a_me a_ps a_rg H.size w_32.2.2.2.2.2.2.1 ) (cwV 0 hts (gd_V wd_315 wd_73 wd_74 wd_24 wd_66) rfl rfl rfl hdX5_fine ⟨Nat.le_of_ble_eq_true rfl, Nat.le_of_ble_eq_true rfl⟩) (preV_std (ci := 5) (q0 := 0) hPc hK hDc hNW rfl rfl) rfl rfl hl.1 rfl (lv_room (Nat.le_of_ble_eq_true rfl)) dX3_edit_41 ⟨Nat.zero_le _, Nat.zero_le _⟩) hS (fun q _ h => hFc q h) hFc (fun r_41 u_41 t9 H1 locs ht9 hvm9 hw9 hB9 hz9 hk9 hS => ?_)
        have er_41 : r_41 = fX5_fine w_32.2.2.2.2.2.2.1 := hw9
        have zr_41 : r_41 = 0 ∨ r_41 = 1 := by rw [er_41]; exact zX5_fine _
        obtain ⟨hP, hD⟩ := back_std (w1 := (wX5_fine cI cB a_mc a_me a_ps a_rg w_32.2.2.2.2.2.2.1)) (w2 := (wX3_edit cI cB a_ed a_ins a_mc a_me a_ps a_by a_ks a_rg a_made u_27.1 w_32.1 w_32.2.1 w_32.2.2.1 w_32.2.2.2.1 w_32.2.2.2.2.1 w_32.2.2.2.2.2.1 v_op v_i v_r v_s v_a v_b w_32.2.2.2.2.2.2.1 v_word v_bF v_kF v_rF w_32.2.2.2.2.2.2.2.1)) (wr := [(a_ed, .inr (3, [.ref a_mc, .ref a_ins, .ref a_me, .ref a_made, .int u_27.1, .int w_32.1, .int w_32.2.1, .int w_32.2.2.1, .int w_32.2.2.2.1, .int w_32.2.2.2.2.1, .int w_32.2.2.2.2.2.1])), (a_ins, .inr (4, [.ref a_mc, .ref a_me, .int v_op, .int v_i, .int v_r, .int v_s, .int v_a, .int v_b])), (a_me, .inr (6, [.ref a_by, .ref a_ks])), (a_ps, .inr (7, [.long v_word])), (a_by, .inl (cB, 8192, .inl v_bF)), (a_ks, .inl (cI, 4, .inl v_kF)), (a_rg, .inl (cI, 16, .inl v_rF)), (a_made, .inl (cI, 256, .inl w_32.2.2.2.2.2.2.2.1))]) hP hD [2] [0, 1, 3, 4, 5, 6, 7, 8] [0, 1, 8, 2, 3, 4, 5, 6, 7] rfl rfl (by decide) (by decide) hk9 hFc hB9 ht9 (by decide) rfl
        clear hB9 hk9 hz9 hvm9 ht9 hFc hPc hDc
        generalize H1 = H at hP hS ⊢
        refine lv_if_eq (tgt := 76) hx hb dX3_edit_44 (by decide) (fun c_44 => ?_) (fun c_44 => ?_)
        · skip
          have hg9 : (w_32.1, w_32.2.1, w_32.2.2.1, w_32.2.2.2.1, w_32.2.2.2.2.1, w_32.2.2.2.2.2.1, w_32.2.2.2.2.2.2.1, w_32.2.2.2.2.2.2.2.1, w_32.2.2.2.2.2.2.2.2) = g_32 := by rw [← hL9]; simp only [LX3_edit_32, ← er_41]; (try simp only [if_neg c_34, if_pos c_44])
          subst hg9
          exact K_32_0 _ _ hP hD hS ls (lv_sub hl [0, 1, 2, 3] rfl)
        · skip
          refine lv_aload_n hx hb dX3_edit_47 rfl (lv_at hl 0 rfl) ?_
          refine va_get (D := D) (ci := 3) (v := .ref a_made) (C := RX3) (T := TX3) (N := 11) hx hb hts in_X3 hown hK hP 0 rfl rfl 3 (by decide) q_2 (fun _ h9 => h9) rfl dX3_edit_48 ?_
          refine lv_iload_n hx hb dX3_edit_51 rfl (lv_at hl 3 rfl) ?_
          refine lv_sipush (v := 255) hx hb dX3_edit_52 (by decide) ?_
          refine lv_iand hx hb dX3_edit_55 ?_
          refine lv_aload_n hx hb dX3_edit_56 rfl (lv_at hl 0 rfl) ?_
          refine lv_aload_n hx hb dX3_edit_57 rfl (lv_at hl 0 rfl) ?_
          refine va_get (D := D) (ci := 3) (v := .ref a_ins) (C := RX3) (T := TX3) (N := 11) hx hb hts in_X3 hown hK hP 0 rfl rfl 1 (by decide) q_0 (fun _ h9 => h9) rfl dX3_edit_58 ?_
          refine va_getN (D := D) (ci := 4) (v := .int v_a) (C := RX4) (T := TX4) (N := 8) hx hb hts in_X4 hown hK hP 1 rfl rfl 6 (by decide) n_1 (fun _ h9 => h9) rfl dX3_edit_61 ?_
          refine lv_iload_n hx hb dX3_edit_64 rfl (lv_at hl 3 rfl) ?_
          refine lv_iadd hx hb dX3_edit_65 ?_
          have hPc : va_P D vwCl (wX3_edited cI cB a_ed a_ins a_mc a_me a_ps a_by a_ks a_rg a_made u_27.1 w_32.1 w_32.2.1 w_32.2.2.1 w_32.2.2.2.1 w_32.2.2.2.2.1 w_32.2.2.2.2.2.1 w_32.2.2.2.2.2.2.1 v_word v_bF v_kF) H := hP.sub [0, 2, 3, 4, 5, 6] rfl
          have hDc : va_D A (wX3_edited cI cB a_ed a_ins a_mc a_me a_ps a_by a_ks a_rg a_made u_27.1 w_32.1 w_32.2.1 w_32.2.2.1 w_32.2.2.2.1 w_32.2.2.2.2.1 w_32.2.2.2.2.2.1 w_32.2.2.2.2.2.2.1 v_word v_bF v_kF) := hD.sub [0, 2, 3, 4, 5, 6] (by decide) rfl
          have hFc := va_free (wc := (wX3_edited cI cB a_ed a_ins a_mc a_me a_ps a_by a_ks a_rg a_made u_27.1 w_32.1 w_32.2.1 w_32.2.2.1 w_32.2.2.2.1 w_32.2.2.2.2.1 w_32.2.2.2.2.2.1 w_32.2.2.2.2.2.2.1 v_word v_bF v_kF)) hD hS hA [0, 2, 3, 4, 5, 6] rfl
          refine va_calli (va_runV (As := [.int (v_a + w_32.2.2.2.2.2.2.2.2)]) (rest := [.int (w_32.2.2.2.2.2.2.2.2 &&& 255), .ref a_made]) ⟨hx, hb, hml, hown, hts⟩ (kX3_edited l D cI cB a_ed a_ins a_mc a_me a_ps a_by a_ks a_rg a_made H.size u_27.1 w_32.1 w_32.2.1 w_32.2.2.1 w_32.2.2.2.1 w_32.2.2.2.2.1 w_32.2.2.2.2.2.1 w_32.2.2.2.2.2.2.1 v_word v_bF v_kF (v_a + w_32.2.2.2.2.2.2.2.2)) (cwV 1 hts (gd_V wd_316 wd_317 wd_318 wd_305 wd_309) rfl rfl rfl hdX3_edited ⟨Nat.le_of_ble_eq_true rfl, Nat.le_of_ble_eq_true rfl⟩) (preV_std (ci := 3) (q0 := 0) hPc hK hDc hNW rfl rfl) rfl rfl hl.1 rfl (lv_room (Nat.le_of_ble_eq_true rfl)) dX3_edit_66 ⟨Nat.zero_le _, Nat.zero_le _⟩) hS (fun q _ h => hFc q h) hFc (fun r_66 u_66 t9 H1 locs ht9 hvm9 hw9 hB9 hz9 hk9 hS => ?_)
          obtain ⟨er_66, eu_66⟩ := hw9
          obtain ⟨hP, hD⟩ := back_std (w1 := (wX3_edited cI cB a_ed a_ins a_mc a_me a_ps a_by a_ks a_rg a_made u_27.1 u_66.1 u_66.2.1 u_66.2.2.1 u_66.2.2.2.1 u_66.2.2.2.2.1 u_66.2.2.2.2.2.1 u_66.2.2.2.2.2.2 v_word v_bF v_kF)) (w2 := (wX3_edit cI cB a_ed a_ins a_mc a_me a_ps a_by a_ks a_rg a_made u_27.1 u_66.1 u_66.2.1 u_66.2.2.1 u_66.2.2.2.1 u_66.2.2.2.2.1 u_66.2.2.2.2.2.1 v_op v_i v_r v_s v_a v_b u_66.2.2.2.2.2.2 v_word v_bF v_kF v_rF w_32.2.2.2.2.2.2.2.1)) (wr := [(a_ins, .inr (4, [.ref a_mc, .ref a_me, .int v_op, .int v_i, .int v_r, .int v_s, .int v_a, .int v_b])), (a_rg, .inl (cI, 16, .inl v_rF)), (a_made, .inl (cI, 256, .inl w_32.2.2.2.2.2.2.2.1))]) hP hD [0, 2, 3, 4, 5, 6] [1, 7, 8] [3, 0, 4, 5, 6, 7, 8, 1, 2] rfl rfl (by decide) (by decide) hk9 hFc hB9 ht9 (by decide) rfl
          clear hB9 hk9 hz9 hvm9 ht9 hFc hPc hDc
          generalize H1 = H at hP hS ⊢
          refine va_iast hx hb hK hP hD hS 8 0 rfl rfl (pk_andIn _ 8 (by decide) (by decide)) dX3_edit_69 (fun H locs hP hD hS => ?_)
          obtain ⟨f_69, ef_69⟩ : ∃ z : Nat → Int32, z = upd w_32.2.2.2.2.2.2.2.1 ((w_32.2.2.2.2.2.2.2.2 &&& 255) : Int32).toNatClampNeg (r_66) := ⟨_, rfl⟩
          have hP : va_P D vwCl (wX3_edit cI cB a_ed a_ins a_mc a_me a_ps a_by a_ks a_rg a_made u_27.1 u_66.1 u_66.2.1 u_66.2.2.1 u_66.2.2.2.1 u_66.2.2.2.2.1 u_66.2.2.2.2.2.1 v_op v_i v_r v_s v_a v_b u_66.2.2.2.2.2.2 v_word v_bF v_kF v_rF (upd w_32.2.2.2.2.2.2.2.1 ((w_32.2.2.2.2.2.2.2.2 &&& 255) : Int32).toNatClampNeg (r_66))) H := hP
          have hD : va_D A (wX3_edit cI cB a_ed a_ins a_mc a_me a_ps a_by a_ks a_rg a_made u_27.1 u_66.1 u_66.2.1 u_66.2.2.1 u_66.2.2.2.1 u_66.2.2.2.2.1 u_66.2.2.2.2.2.1 v_op v_i v_r v_s v_a v_b u_66.2.2.2.2.2.2 v_word v_bF v_kF v_rF (upd w_32.2.2.2.2.2.2.2.1 ((w_32.2.2.2.2.2.2.2.2 &&& 255) : Int32).toNatClampNeg (r_66))) := hD
          rw [← ef_69] at hP hD
          obtain ⟨x_70, ex_70⟩ : ∃ z : Int32, z = w_32.2.2.2.2.2.2.2.2 + 1 := ⟨_, rfl⟩
          refine lv_iinc (v := x_70) (lv' := [(3, .int x_70), (0, .ref a_ed), (1, .int x0), (2, .int x_9)]) hx hb dX3_edit_70 hl (k := 3) rfl (by rw [ex_70]; rfl) (by decide) rfl (fun ls hl => ?_)
          refine lv_goto (tgt := 32) hx hb dX3_edit_73 (by decide) ?_
          exact ih (u_66.1, u_66.2.1, u_66.2.2.1, u_66.2.2.2.1, u_66.2.2.2.2.1, u_66.2.2.2.2.2.1, u_66.2.2.2.2.2.2, f_69, x_70) (by subst ex_70; subst ef_69; subst eu_66; subst er_66; subst er_41;  exact Nat.lt_of_lt_of_le (ms_up c_34) (Nat.le_of_lt_succ hm9)) (by rw [← hL9]; subst ex_70; subst ef_69; simp only [LX3_edit_32, ← er_41, ← er_66, ← eu_66]; (try simp only [if_neg c_34, if_neg c_44])) _ _ hP hD hS ls (lv_sub hl [1, 2, 3, 0] rfl)
  exact lp_32 (msU x_9 0 + 1) (u_27.2.1, u_27.2.2.1, u_27.2.2.2.1, u_27.2.2.2.2.1, v_sab, u_27.2.2.2.2.2, u_23, v_madeF, 0) (Nat.lt_succ_self _) eg_32.symm _ _ hP hD hS ls (lv_sub hl [2, 3, 1, 0] rfl)
theorem hdX3_edit : yX3_edit.cls = RX3 ∧ yX3_edit.cls ≠ "java/lang/invoke/MethodHandle" ∧ yX3_edit.cls ≠ "java/lang/invoke/VarHandle" ∧ (parseMethodDescriptor yX3_edit.desc).map (fun d => d.parameters.length) = some 1 := by decide +kernel
