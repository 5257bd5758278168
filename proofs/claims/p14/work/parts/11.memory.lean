noncomputable def fX6_get (x0 : Int32) (v_bF : (Nat → Int32)) : Int32 :=
  ((v_bF ((x0 &&& 8191) : Int32).toNatClampNeg) &&& 255)
abbrev wX6_get (cI cB : ClassId) (a_me a_by a_ks : Nat) (v_bF : (Nat → Int32)) : va_W := [(a_me, .inr (6, [.ref a_by, .ref a_ks])), (a_by, .inl (cB, 8192, .inl v_bF))]
abbrev rmX6_get : Room := { frames := 0, cells := 0, slots := 0, locals := 0 }
abbrev qX6_get (D : va_G) (cI cB : ClassId) (a_me a_by a_ks : Nat) (v_bF : (Nat → Int32)) (x0 : Int32) : (Nat → Prop) → Array Value → State → Outcome → State → Prop := fun A9 => va_Qi (fun (r9 : Int32) (u9 : Unit) => r9 = fX6_get x0 v_bF) (fun u9 t9 => atW D (TYS cI cB) A9 (wX6_get cI cB a_me a_by a_ks v_bF) t9) A9
set_option maxHeartbeats 4000000 in
set_option maxRecDepth 100000 in
theorem kX6_get (l : Launch) (D : va_G) (cI cB : ClassId) (a_me a_by a_ks : Nat) (sz : Nat) (v_bF : (Nat → Int32)) (x0 : Int32) : MetW l yX6_get (WK yX6_get cX6_get 2 (some .int)) rmX6_get D (TYS cI cB) (wX6_get cI cB a_me a_by a_ks v_bF) sz [.ref a_me, .int x0] (qX6_get D cI cB a_me a_by a_ks v_bF x0) 0 0 := by
  refine met_std (by decide) rfl (Nat.le_of_ble_eq_true rfl) ?_
  intro p e s m below meth c A ls H hx hb hr hml hown hts hlocks hA hP hK hD hS hNW hl
  have hl : lv_has ls 2 [(0, .ref a_me), (1, .int x0)] := hl
  have q_0 := hts _ (List.mem_cons_of_mem _ wd_103)
  refine lv_aload_n hx hb dX6_get_0 rfl (lv_at hl 0 rfl) ?_
  refine va_get (D := D) (ci := 6) (v := .ref a_by) (C := RX6) (T := TX6) (N := 2) hx hb hts in_X6 hown hK hP 0 rfl rfl 0 (by decide) q_0 (fun _ h9 => h9) rfl dX6_get_1 ?_
  refine lv_iload_n hx hb dX6_get_4 rfl (lv_at hl 1 rfl) ?_
  refine lv_sipush (v := 8191) hx hb dX6_get_5 (by decide) ?_
  refine lv_iand hx hb dX6_get_8 ?_
  refine va_bald hx hb hK hP 1 1 rfl rfl (pk_andIn _ 13 (by decide) (by decide)) dX6_get_9 ?_
  refine lv_sipush (v := 255) hx hb dX6_get_10 (by decide) ?_
  refine lv_iand hx hb dX6_get_13 ?_
  have hf9 : ((v_bF ((x0 &&& 8191) : Int32).toNatClampNeg) &&& 255) = fX6_get x0 v_bF := by simp only [fX6_get]
  exact W.iret hx hb hr (fun t9 ht9 hW9 => ⟨⟨((v_bF ((x0 &&& 8191) : Int32).toNatClampNeg) &&& 255), (), rfl, hf9, ⟨by rw [ht9]; exact hP, va_K.moved hW9.alike hK, hD⟩⟩, hS.F ht9⟩) hS.2.2 dX6_get_14
theorem hdX6_get : yX6_get.cls = RX6 ∧ yX6_get.cls ≠ "java/lang/invoke/MethodHandle" ∧ yX6_get.cls ≠ "java/lang/invoke/VarHandle" ∧ (parseMethodDescriptor yX6_get.desc).map (fun d => d.parameters.length) = some 1 := by decide +kernel
noncomputable def fX6_set (x0 : Int32) (x1 : Int32) (v_bF : (Nat → Int32)) : (Nat → Int32) :=
  let f_11 := upd v_bF ((x0 &&& 8191) : Int32).toNatClampNeg (vp_nar .byte ((x1 : Int32).toInt8.toInt32))
  f_11
abbrev wX6_set (cI cB : ClassId) (a_me a_by a_ks : Nat) (v_bF : (Nat → Int32)) : va_W := [(a_me, .inr (6, [.ref a_by, .ref a_ks])), (a_by, .inl (cB, 8192, .inl v_bF))]
abbrev rmX6_set : Room := { frames := 0, cells := 0, slots := 0, locals := 0 }
abbrev qX6_set (D : va_G) (cI cB : ClassId) (a_me a_by a_ks : Nat) (v_bF : (Nat → Int32)) (x0 : Int32) (x1 : Int32) : (Nat → Prop) → Array Value → State → Outcome → State → Prop := fun A9 => va_Qv (fun (u9 : (Nat → Int32)) => u9 = fX6_set x0 x1 v_bF) (fun u9 t9 => atW D (TYS cI cB) A9 (wX6_set cI cB a_me a_by a_ks u9) t9) A9
set_option maxHeartbeats 4000000 in
set_option maxRecDepth 100000 in
theorem kX6_set (l : Launch) (D : va_G) (cI cB : ClassId) (a_me a_by a_ks : Nat) (sz : Nat) (v_bF : (Nat → Int32)) (x0 : Int32) (x1 : Int32) : MetW l yX6_set (WK yX6_set cX6_set 3 none) rmX6_set D (TYS cI cB) (wX6_set cI cB a_me a_by a_ks v_bF) sz [.ref a_me, .int x0, .int x1] (qX6_set D cI cB a_me a_by a_ks v_bF x0 x1) 0 0 := by
  refine met_std (by decide) rfl (Nat.le_of_ble_eq_true rfl) ?_
  intro p e s m below meth c A ls H hx hb hr hml hown hts hlocks hA hP hK hD hS hNW hl
  have hl : lv_has ls 3 [(0, .ref a_me), (1, .int x0), (2, .int x1)] := hl
  have q_0 := hts _ (List.mem_cons_of_mem _ wd_103)
  refine lv_aload_n hx hb dX6_set_0 rfl (lv_at hl 0 rfl) ?_
  refine va_get (D := D) (ci := 6) (v := .ref a_by) (C := RX6) (T := TX6) (N := 2) hx hb hts in_X6 hown hK hP 0 rfl rfl 0 (by decide) q_0 (fun _ h9 => h9) rfl dX6_set_1 ?_
  refine lv_iload_n hx hb dX6_set_4 rfl (lv_at hl 1 rfl) ?_
  refine lv_sipush (v := 8191) hx hb dX6_set_5 (by decide) ?_
  refine lv_iand hx hb dX6_set_8 ?_
  refine lv_iload_n hx hb dX6_set_9 rfl (lv_at hl 2 rfl) ?_
  refine lv_i2b hx hb dX6_set_10 rfl ?_
  refine va_bast hx hb hK hP hD hS 1 1 rfl rfl (pk_andIn _ 13 (by decide) (by decide)) dX6_set_11 (fun H locs hP hD hS => ?_)
  obtain ⟨f_11, ef_11⟩ : ∃ z : Nat → Int32, z = upd v_bF ((x0 &&& 8191) : Int32).toNatClampNeg (vp_nar .byte ((x1 : Int32).toInt8.toInt32)) := ⟨_, rfl⟩
  have hP : va_P D vwCl (wX6_set cI cB a_me a_by a_ks (upd v_bF ((x0 &&& 8191) : Int32).toNatClampNeg (vp_nar .byte ((x1 : Int32).toInt8.toInt32)))) H := hP
  have hD : va_D A (wX6_set cI cB a_me a_by a_ks (upd v_bF ((x0 &&& 8191) : Int32).toNatClampNeg (vp_nar .byte ((x1 : Int32).toInt8.toInt32)))) := hD
  rw [← ef_11] at hP hD
  have hf9 : f_11 = fX6_set x0 x1 v_bF := by subst ef_11; simp only [fX6_set]
  exact W.vret hx hb hr (fun t9 ht9 hW9 => ⟨⟨f_11, rfl, hf9, ⟨by rw [ht9]; exact hP, va_K.moved hW9.alike hK, hD⟩⟩, hS.F ht9⟩) hS.2.2 dX6_set_12
theorem hdX6_set : yX6_set.cls = RX6 ∧ yX6_set.cls ≠ "java/lang/invoke/MethodHandle" ∧ yX6_set.cls ≠ "java/lang/invoke/VarHandle" ∧ (parseMethodDescriptor yX6_set.desc).map (fun d => d.parameters.length) = some 2 := by decide +kernel
noncomputable def LX6_number_5 (x0 : Int32) (x1 : Int32) (v_bF : (Nat → Int32)) : Nat → (Int64 × Int32) → (Int64 × Int32)
  | 0, w_5 => w_5
  | n9 + 1, w_5 =>
    if x1 ≤ w_5.2 then ((w_5.1, w_5.2)) else (let r_20 := fX6_get (x0 + w_5.2) v_bF; let x_25 := ((w_5.1 <<< ((8 : Int32).toInt64 &&& 63)) ||| (r_20 : Int32).toInt64); let x_26 := w_5.2 + 1; LX6_number_5 x0 x1 v_bF n9 (x_25, x_26))
noncomputable def fX6_number (x0 : Int32) (x1 : Int32) (v_bF : (Nat → Int32)) : Int64 :=
  let g_5 := LX6_number_5 x0 x1 v_bF (msU x1 0 + 1) (0, 0)
  g_5.1
abbrev wX6_number (cI cB : ClassId) (a_me a_by a_ks : Nat) (v_bF : (Nat → Int32)) : va_W := [(a_me, .inr (6, [.ref a_by, .ref a_ks])), (a_by, .inl (cB, 8192, .inl v_bF))]
abbrev rmX6_number : Room := { frames := 1, cells := 0, slots := 0, locals := 21 }
abbrev qX6_number (D : va_G) (cI cB : ClassId) (a_me a_by a_ks : Nat) (v_bF : (Nat → Int32)) (x0 : Int32) (x1 : Int32) : (Nat → Prop) → Array Value → State → Outcome → State → Prop := fun A9 => va_Ql (fun (r9 : Int64) (u9 : Unit) => r9 = fX6_number x0 x1 v_bF) (fun u9 t9 => atW D (TYS cI cB) A9 (wX6_number cI cB a_me a_by a_ks v_bF) t9) A9
set_option maxHeartbeats 4000000 in
set_option maxRecDepth 100000 in
theorem kX6_number (l : Launch) (D : va_G) (cI cB : ClassId) (a_me a_by a_ks : Nat) (sz : Nat) (v_bF : (Nat → Int32)) (x0 : Int32) (x1 : Int32) : MetW l yX6_number (WK yX6_number cX6_number 6 (some .long)) rmX6_number D (TYS cI cB) (wX6_number cI cB a_me a_by a_ks v_bF) sz [.ref a_me, .int x0, .int x1] (qX6_number D cI cB a_me a_by a_ks v_bF x0 x1) 0 0 := by
  refine met_std (by decide) rfl (Nat.le_of_ble_eq_true rfl) ?_
  intro p e s m below meth c A ls H hx hb hr hml hown hts hlocks hA hP hK hD hS hNW hl
  have hl : lv_has ls 6 [(0, .ref a_me), (1, .int x0), (2, .int x1)] := hl
  refine lv_lconst (v := 0) hx hb dX6_number_0 (by decide) ?_
  refine lv_lstore_n (lv' := [(3, .long 0), (0, .ref a_me), (1, .int x0), (2, .int x1)]) hx hb dX6_number_1 rfl hl (by decide) rfl (fun ls hl => ?_)
  refine lv_iconst (v := 0) hx hb dX6_number_2 (by decide) ?_
  refine lv_istore (lv' := [(5, .int 0), (3, .long 0), (0, .ref a_me), (1, .int x0), (2, .int x1)]) hx hb dX6_number_3 hl (by decide) rfl (fun ls hl => ?_)
  obtain ⟨g_5, eg_5⟩ : ∃ z : (Int64 × Int32), z = LX6_number_5 x0 x1 v_bF (msU x1 0 + 1) (0, 0) := ⟨_, rfl⟩
  have K_5_0 : ∀ (H : Heap) (locs : List Loc), va_P D vwCl (wX6_number cI cB a_me a_by a_ks v_bF) H → va_D A (wX6_number cI cB a_me a_by a_ks v_bF) → va_S A s.heap H locs → ∀ (ls : Array Slot), lv_has ls 6 [(0, .ref a_me), (1, .int x0), (2, .int x1), (3, .long g_5.1), (5, .int g_5.2)] → W p l e rmX6_number s m ([.ref a_me, .int x0, .int x1] : List Value).toArray below meth c H locs 0 0 (MQ below (qX6_number D cI cB a_me a_by a_ks v_bF x0 x1 A) ([.ref a_me, .int x0, .int x1] : List Value).toArray s 0 0 A) (F0 m 32 ls []) := by
    intro H locs hP hD hS ls hl
    refine lv_lload_n hx hb dX6_number_32 rfl (lv_at hl 3 rfl) ?_
    have hf9 : g_5.1 = fX6_number x0 x1 v_bF := by simp only [fX6_number, ← eg_5]
    exact W.lret hx hb hr (fun t9 ht9 hW9 => ⟨⟨g_5.1, (), rfl, hf9, ⟨by rw [ht9]; exact hP, va_K.moved hW9.alike hK, hD⟩⟩, hS.F ht9⟩) hS.2.2 dX6_number_33
  have lp_5 : ∀ (n9 : Nat) (w_5 : (Int64 × Int32)), msU x1 w_5.2 < n9 → LX6_number_5 x0 x1 v_bF n9 w_5 = g_5 → ∀ (H : Heap) (locs : List Loc), va_P D vwCl (wX6_number cI cB a_me a_by a_ks v_bF) H → va_D A (wX6_number cI cB a_me a_by a_ks v_bF) → va_S A s.heap H locs → ∀ (ls : Array Slot), lv_has ls 6 [(0, .ref a_me), (1, .int x0), (2, .int x1), (3, .long w_5.1), (5, .int w_5.2)] → W p l e rmX6_number s m ([.ref a_me, .int x0, .int x1] : List Value).toArray below meth c H locs 0 0 (MQ below (qX6_number D cI cB a_me a_by a_ks v_bF x0 x1 A) ([.ref a_me, .int x0, .int x1] : List Value).toArray s 0 0 A) (F0 m 5 ls []) := by
    intro n9
    induction n9 with
    | zero => intro w_5 hm9; exact absurd hm9 (Nat.not_lt_zero _)
    | succ n9 ih =>
      intro w_5 hm9 hL9 H locs hP hD hS ls hl
      refine lv_iload hx hb dX6_number_5 (lv_at hl 4 rfl) ?_
      refine lv_iload_n hx hb dX6_number_7 rfl (lv_at hl 2 rfl) ?_
      refine lv_icmp_ge (tgt := 32) hx hb dX6_number_8 (by decide) (fun c_8 => ?_) (fun c_8 => ?_)
      · skip
        have hg9 : (w_5.1, w_5.2) = g_5 := by rw [← hL9]; simp only [LX6_number_5, if_pos c_8]
        subst hg9
        exact K_5_0 _ _ hP hD hS ls (lv_sub hl [0, 1, 2, 3, 4] rfl)
      · skip
        refine lv_lload_n hx hb dX6_number_11 rfl (lv_at hl 3 rfl) ?_
        refine lv_bipush (v := 8) hx hb dX6_number_12 (by decide) ?_
        refine lv_lshl hx hb dX6_number_14 rfl ?_
        refine lv_aload_n hx hb dX6_number_15 rfl (lv_at hl 0 rfl) ?_
        refine lv_iload_n hx hb dX6_number_16 rfl (lv_at hl 1 rfl) ?_
        refine lv_iload hx hb dX6_number_17 (lv_at hl 4 rfl) ?_
        refine lv_iadd hx hb dX6_number_19 ?_
        have hPc : va_P D vwCl (wX6_get cI cB a_me a_by a_ks v_bF) H := hP.sub [0, 1] rfl
        have hDc : va_D A (wX6_get cI cB a_me a_by a_ks v_bF) := hD.sub [0, 1] (by decide) rfl
        have hFc := va_free (wc := (wX6_get cI cB a_me a_by a_ks v_bF)) hD hS hA [0, 1] rfl
        refine va_calli (va_runV (As := [.int (x0 + w_5.2)]) (rest := [.long ((w_5.1 <<< ((8 : Int32).toInt64 &&& 63)))]) ⟨hx, hb, hml, hown, hts⟩ (kX6_get l D cI cB a_me a_by a_ks H.size v_bF (x0 + w_5.2)) (cwV 1 hts (gd_V wd_116 wd_109 wd_110 wd_78 wd_102) rfl rfl rfl hdX6_get ⟨Nat.le_of_ble_eq_true rfl, Nat.le_of_ble_eq_true rfl⟩) (preV_std (ci := 6) (q0 := 0) hPc hK hDc hNW rfl rfl) rfl rfl hl.1 rfl (lv_room (Nat.le_of_ble_eq_true rfl)) dX6_number_20 ⟨Nat.zero_le _, Nat.zero_le _⟩) hS (fun q _ h => hFc q h) hFc (fun r_20 u_20 t9 H1 locs ht9 hvm9 hw9 hB9 hz9 hk9 hS => ?_)
        have er_20 : r_20 = fX6_get (x0 + w_5.2) v_bF := hw9
        obtain ⟨hP, hD⟩ := back_std (w1 := (wX6_get cI cB a_me a_by a_ks v_bF)) (w2 := (wX6_number cI cB a_me a_by a_ks v_bF)) (wr := []) hP hD [0, 1] [] [0, 1] rfl rfl (by decide) (by decide) hk9 hFc hB9 ht9 (by decide) rfl
        clear hB9 hk9 hz9 hvm9 ht9 hFc hPc hDc
        generalize H1 = H at hP hS ⊢
        refine lv_i2l hx hb dX6_number_23 rfl ?_
        refine lv_lor hx hb dX6_number_24 ?_
        refine lv_topl (fun x_25 ex_25 => ?_)
        refine lv_lstore_n (lv' := [(3, .long x_25), (0, .ref a_me), (1, .int x0), (2, .int x1), (5, .int w_5.2)]) hx hb dX6_number_25 rfl hl (by decide) rfl (fun ls hl => ?_)
        obtain ⟨x_26, ex_26⟩ : ∃ z : Int32, z = w_5.2 + 1 := ⟨_, rfl⟩
        refine lv_iinc (v := x_26) (lv' := [(5, .int x_26), (3, .long x_25), (0, .ref a_me), (1, .int x0), (2, .int x1)]) hx hb dX6_number_26 hl (k := 4) rfl (by rw [ex_26]; rfl) (by decide) rfl (fun ls hl => ?_)
        refine lv_goto (tgt := 5) hx hb dX6_number_29 (by decide) ?_
        exact ih (x_25, x_26) (by subst ex_26; subst ex_25; subst er_20;  exact Nat.lt_of_lt_of_le (ms_up c_8) (Nat.le_of_lt_succ hm9)) (by rw [← hL9]; subst ex_26; subst ex_25; simp only [LX6_number_5, ← er_20, if_neg c_8]) _ _ hP hD hS ls (lv_sub hl [2, 3, 4, 1, 0] rfl)
  exact lp_5 (msU x1 0 + 1) (0, 0) (Nat.lt_succ_self _) eg_5.symm _ _ hP hD hS ls (lv_sub hl [2, 3, 4, 1, 0] rfl)
theorem hdX6_number : yX6_number.cls = RX6 ∧ yX6_number.cls ≠ "java/lang/invoke/MethodHandle" ∧ yX6_number.cls ≠ "java/lang/invoke/VarHandle" ∧ (parseMethodDescriptor yX6_number.desc).map (fun d => d.parameters.length) = some 2 := by decide +kernel
noncomputable def LX6_setNumber_3 (x0 : Int32) (x1 : Int64) (x2 : Int32) : Nat → ((Nat → Int32) × Int32) → ((Nat → Int32) × Int32)
  | 0, w_3 => w_3
  | n9 + 1, w_3 =>
    if x2 ≤ w_3.2 then ((w_3.1, w_3.2)) else (let u_28 := fX6_set (x0 + w_3.2) ((((x1 : Int64).toUInt64 >>> (((8 * ((x2 - 1) - w_3.2)) : Int32).toInt64.toUInt64 &&& Int64.toUInt64 63)).toInt64 : Int64).toInt32) w_3.1; let x_31 := w_3.2 + 1; LX6_setNumber_3 x0 x1 x2 n9 (u_28, x_31))
noncomputable def fX6_setNumber (x0 : Int32) (x1 : Int64) (x2 : Int32) (v_bF : (Nat → Int32)) : (Nat → Int32) :=
  let g_3 := LX6_setNumber_3 x0 x1 x2 (msU x2 0 + 1) (v_bF, 0)
  g_3.1
abbrev wX6_setNumber (cI cB : ClassId) (a_me a_by a_ks : Nat) (v_bF : (Nat → Int32)) : va_W := [(a_me, .inr (6, [.ref a_by, .ref a_ks])), (a_by, .inl (cB, 8192, .inl v_bF))]
abbrev rmX6_setNumber : Room := { frames := 1, cells := 0, slots := 0, locals := 22 }
abbrev qX6_setNumber (D : va_G) (cI cB : ClassId) (a_me a_by a_ks : Nat) (v_bF : (Nat → Int32)) (x0 : Int32) (x1 : Int64) (x2 : Int32) : (Nat → Prop) → Array Value → State → Outcome → State → Prop := fun A9 => va_Qv (fun (u9 : (Nat → Int32)) => u9 = fX6_setNumber x0 x1 x2 v_bF) (fun u9 t9 => atW D (TYS cI cB) A9 (wX6_setNumber cI cB a_me a_by a_ks u9) t9) A9
set_option maxHeartbeats 4000000 in
set_option maxRecDepth 100000 in
theorem kX6_setNumber (l : Launch) (D : va_G) (cI cB : ClassId) (a_me a_by a_ks : Nat) (sz : Nat) (v_bF : (Nat → Int32)) (x0 : Int32) (x1 : Int64) (x2 : Int32) : MetW l yX6_setNumber (WK yX6_setNumber cX6_setNumber 6 none) rmX6_setNumber D (TYS cI cB) (wX6_setNumber cI cB a_me a_by a_ks v_bF) sz [.ref a_me, .int x0, .long x1, .int x2] (qX6_setNumber D cI cB a_me a_by a_ks v_bF x0 x1 x2) 0 0 := by
  refine met_std (by decide) rfl (Nat.le_of_ble_eq_true rfl) ?_
  intro p e s m below meth c A ls H hx hb hr hml hown hts hlocks hA hP hK hD hS hNW hl
  have hl : lv_has ls 6 [(0, .ref a_me), (1, .int x0), (2, .long x1), (4, .int x2)] := hl
  refine lv_iconst (v := 0) hx hb dX6_setNumber_0 (by decide) ?_
  refine lv_istore (lv' := [(5, .int 0), (0, .ref a_me), (1, .int x0), (2, .long x1), (4, .int x2)]) hx hb dX6_setNumber_1 hl (by decide) rfl (fun ls hl => ?_)
  obtain ⟨g_3, eg_3⟩ : ∃ z : ((Nat → Int32) × Int32), z = LX6_setNumber_3 x0 x1 x2 (msU x2 0 + 1) (v_bF, 0) := ⟨_, rfl⟩
  have K_3_0 : ∀ (H : Heap) (locs : List Loc), va_P D vwCl (wX6_setNumber cI cB a_me a_by a_ks g_3.1) H → va_D A (wX6_setNumber cI cB a_me a_by a_ks g_3.1) → va_S A s.heap H locs → ∀ (ls : Array Slot), lv_has ls 6 [(0, .ref a_me), (1, .int x0), (2, .long x1), (4, .int x2), (5, .int g_3.2)] → W p l e rmX6_setNumber s m ([.ref a_me, .int x0, .long x1, .int x2] : List Value).toArray below meth c H locs 0 0 (MQ below (qX6_setNumber D cI cB a_me a_by a_ks v_bF x0 x1 x2 A) ([.ref a_me, .int x0, .long x1, .int x2] : List Value).toArray s 0 0 A) (F0 m 37 ls []) := by
    intro H locs hP hD hS ls hl
    have hf9 : g_3.1 = fX6_setNumber x0 x1 x2 v_bF := by simp only [fX6_setNumber, ← eg_3]
    exact W.vret hx hb hr (fun t9 ht9 hW9 => ⟨⟨g_3.1, rfl, hf9, ⟨by rw [ht9]; exact hP, va_K.moved hW9.alike hK, hD⟩⟩, hS.F ht9⟩) hS.2.2 dX6_setNumber_37
  have lp_3 : ∀ (n9 : Nat) (w_3 : ((Nat → Int32) × Int32)), msU x2 w_3.2 < n9 → LX6_setNumber_3 x0 x1 x2 n9 w_3 = g_3 → ∀ (H : Heap) (locs : List Loc), va_P D vwCl (wX6_setNumber cI cB a_me a_by a_ks w_3.1) H → va_D A (wX6_setNumber cI cB a_me a_by a_ks w_3.1) → va_S A s.heap H locs → ∀ (ls : Array Slot), lv_has ls 6 [(0, .ref a_me), (1, .int x0), (2, .long x1), (4, .int x2), (5, .int w_3.2)] → W p l e rmX6_setNumber s m ([.ref a_me, .int x0, .long x1, .int x2] : List Value).toArray below meth c H locs 0 0 (MQ below (qX6_setNumber D cI cB a_me a_by a_ks v_bF x0 x1 x2 A) ([.ref a_me, .int x0, .long x1, .int x2] : List Value).toArray s 0 0 A) (F0 m 3 ls []) := by
    intro n9
    induction n9 with
    | zero => intro w_3 hm9; exact absurd hm9 (Nat.not_lt_zero _)
    | succ n9 ih =>
      intro w_3 hm9 hL9 H locs hP hD hS ls hl
      refine lv_iload hx hb dX6_setNumber_3 (lv_at hl 4 rfl) ?_
      refine lv_iload hx hb dX6_setNumber_5 (lv_at hl 3 rfl) ?_
      refine lv_icmp_ge (tgt := 37) hx hb dX6_setNumber_7 (by decide) (fun c_7 => ?_) (fun c_7 => ?_)
      · skip
        have hg9 : (w_3.1, w_3.2) = g_3 := by rw [← hL9]; simp only [LX6_setNumber_3, if_pos c_7]
        subst hg9
        exact K_3_0 _ _ hP hD hS ls (lv_sub hl [0, 1, 2, 3, 4] rfl)
      · skip
        refine lv_aload_n hx hb dX6_setNumber_10 rfl (lv_at hl 0 rfl) ?_
        refine lv_iload_n hx hb dX6_setNumber_11 rfl (lv_at hl 1 rfl) ?_
        refine lv_iload hx hb dX6_setNumber_12 (lv_at hl 4 rfl) ?_
        refine lv_iadd hx hb dX6_setNumber_14 ?_
        refine lv_lload_n hx hb dX6_setNumber_15 rfl (lv_at hl 2 rfl) ?_
        refine lv_bipush (v := 8) hx hb dX6_setNumber_16 (by decide) ?_
        refine lv_iload hx hb dX6_setNumber_18 (lv_at hl 3 rfl) ?_
        refine lv_iconst (v := 1) hx hb dX6_setNumber_20 (by decide) ?_
        refine lv_isub hx hb dX6_setNumber_21 ?_
        refine lv_iload hx hb dX6_setNumber_22 (lv_at hl 4 rfl) ?_
        refine lv_isub hx hb dX6_setNumber_24 ?_
        refine lv_imul hx hb dX6_setNumber_25 ?_
        refine lv_lushr hx hb dX6_setNumber_26 rfl ?_
        refine lv_l2i hx hb dX6_setNumber_27 rfl ?_
        have hPc : va_P D vwCl (wX6_set cI cB a_me a_by a_ks w_3.1) H := hP.sub [0, 1] rfl
        have hDc : va_D A (wX6_set cI cB a_me a_by a_ks w_3.1) := hD.sub [0, 1] (by decide) rfl
        have hFc := va_free (wc := (wX6_set cI cB a_me a_by a_ks w_3.1)) hD hS hA [0, 1] rfl
        refine va_callv (va_runV (As := [.int (x0 + w_3.2), .int ((((x1 : Int64).toUInt64 >>> (((8 * ((x2 - 1) - w_3.2)) : Int32).toInt64.toUInt64 &&& Int64.toUInt64 63)).toInt64 : Int64).toInt32)]) (rest := []) ⟨hx, hb, hml, hown, hts⟩ (kX6_set l D cI cB a_me a_by a_ks H.size w_3.1 (x0 + w_3.2) ((((x1 : Int64).toUInt64 >>> (((8 * ((x2 - 1) - w_3.2)) : Int32).toInt64.toUInt64 &&& Int64.toUInt64 63)).toInt64 : Int64).toInt32)) (cwV 2 hts (gd_V wd_379 wd_151 wd_152 wd_78 wd_145) rfl rfl rfl hdX6_set ⟨Nat.le_of_ble_eq_true rfl, Nat.le_of_ble_eq_true rfl⟩) (preV_std (ci := 6) (q0 := 0) hPc hK hDc hNW rfl rfl) rfl rfl hl.1 rfl (lv_room (Nat.le_of_ble_eq_true rfl)) dX6_setNumber_28 ⟨Nat.zero_le _, Nat.zero_le _⟩) hS (fun q _ h => hFc q h) hFc (fun u_28 t9 H1 locs ht9 hvm9 hw9 hB9 hz9 hk9 hS => ?_)
        have eu_28 : u_28 = fX6_set (x0 + w_3.2) ((((x1 : Int64).toUInt64 >>> (((8 * ((x2 - 1) - w_3.2)) : Int32).toInt64.toUInt64 &&& Int64.toUInt64 63)).toInt64 : Int64).toInt32) w_3.1 := hw9
        obtain ⟨hP, hD⟩ := back_std (w1 := (wX6_set cI cB a_me a_by a_ks u_28)) (w2 := (wX6_setNumber cI cB a_me a_by a_ks u_28)) (wr := []) hP hD [0, 1] [] [0, 1] rfl rfl (by decide) (by decide) hk9 hFc hB9 ht9 (by decide) rfl
        clear hB9 hk9 hz9 hvm9 ht9 hFc hPc hDc
        generalize H1 = H at hP hS ⊢
        obtain ⟨x_31, ex_31⟩ : ∃ z : Int32, z = w_3.2 + 1 := ⟨_, rfl⟩
        refine lv_iinc (v := x_31) (lv' := [(5, .int x_31), (0, .ref a_me), (1, .int x0), (2, .long x1), (4, .int x2)]) hx hb dX6_setNumber_31 hl (k := 4) rfl (by rw [ex_31]; rfl) (by decide) rfl (fun ls hl => ?_)
        refine lv_goto (tgt := 3) hx hb dX6_setNumber_34 (by decide) ?_
        exact ih (u_28, x_31) (by subst ex_31; subst eu_28;  exact Nat.lt_of_lt_of_le (ms_up c_7) (Nat.le_of_lt_succ hm9)) (by rw [← hL9]; subst ex_31; simp only [LX6_setNumber_3, ← eu_28, if_neg c_7]) _ _ hP hD hS ls (lv_sub hl [1, 2, 3, 4, 0] rfl)
  exact lp_3 (msU x2 0 + 1) (v_bF, 0) (Nat.lt_succ_self _) eg_3.symm _ _ hP hD hS ls (lv_sub hl [1, 2, 3, 4, 0] rfl)
theorem hdX6_setNumber : yX6_setNumber.cls = RX6 ∧ yX6_setNumber.cls ≠ "java/lang/invoke/MethodHandle" ∧ yX6_setNumber.cls ≠ "java/lang/invoke/VarHandle" ∧ (parseMethodDescriptor yX6_setNumber.desc).map (fun d => d.parameters.length) = some 3 := by decide +kernel
noncomputable def fX6_word (x0 : Int32) (v_bF : (Nat → Int32)) : Int32 :=
  let r_3 := fX6_number x0 4 v_bF
  (r_3 : Int64).toInt32
abbrev wX6_word (cI cB : ClassId) (a_me a_by a_ks : Nat) (v_bF : (Nat → Int32)) : va_W := [(a_me, .inr (6, [.ref a_by, .ref a_ks])), (a_by, .inl (cB, 8192, .inl v_bF))]
abbrev rmX6_word : Room := { frames := 2, cells := 0, slots := 0, locals := 46 }
abbrev qX6_word (D : va_G) (cI cB : ClassId) (a_me a_by a_ks : Nat) (v_bF : (Nat → Int32)) (x0 : Int32) : (Nat → Prop) → Array Value → State → Outcome → State → Prop := fun A9 => va_Qi (fun (r9 : Int32) (u9 : Unit) => r9 = fX6_word x0 v_bF) (fun u9 t9 => atW D (TYS cI cB) A9 (wX6_word cI cB a_me a_by a_ks v_bF) t9) A9
set_option maxHeartbeats 4000000 in
set_option maxRecDepth 100000 in
theorem kX6_word (l : Launch) (D : va_G) (cI cB : ClassId) (a_me a_by a_ks : Nat) (sz : Nat) (v_bF : (Nat → Int32)) (x0 : Int32) : MetW l yX6_word (WK yX6_word cX6_word 2 (some .int)) rmX6_word D (TYS cI cB) (wX6_word cI cB a_me a_by a_ks v_bF) sz [.ref a_me, .int x0] (qX6_word D cI cB a_me a_by a_ks v_bF x0) 0 0 := by
  refine met_std (by decide) rfl (Nat.le_of_ble_eq_true rfl) ?_
  intro p e s m below meth c A ls H hx hb hr hml hown hts hlocks hA hP hK hD hS hNW hl
  have hl : lv_has ls 2 [(0, .ref a_me), (1, .int x0)] := hl
  refine lv_aload_n hx hb dX6_word_0 rfl (lv_at hl 0 rfl) ?_
  refine lv_iload_n hx hb dX6_word_1 rfl (lv_at hl 1 rfl) ?_
  refine lv_iconst (v := 4) hx hb dX6_word_2 (by decide) ?_
  have hPc : va_P D vwCl (wX6_number cI cB a_me a_by a_ks v_bF) H := hP.sub [0, 1] rfl
  have hDc : va_D A (wX6_number cI cB a_me a_by a_ks v_bF) := hD.sub [0, 1] (by decide) rfl
  have hFc := va_free (wc := (wX6_number cI cB a_me a_by a_ks v_bF)) hD hS hA [0, 1] rfl
  refine va_calll (va_runV (As := [.int x0, .int 4]) (rest := []) ⟨hx, hb, hml, hown, hts⟩ (kX6_number l D cI cB a_me a_by a_ks H.size v_bF x0 4) (cwV 2 hts (gd_V wd_381 wd_120 wd_121 wd_78 wd_115) rfl rfl rfl hdX6_number ⟨Nat.le_of_ble_eq_true rfl, Nat.le_of_ble_eq_true rfl⟩) (preV_std (ci := 6) (q0 := 0) hPc hK hDc hNW rfl rfl) rfl rfl hl.1 rfl (lv_room (Nat.le_of_ble_eq_true rfl)) dX6_word_3 ⟨Nat.zero_le _, Nat.zero_le _⟩) hS (fun q _ h => hFc q h) hFc (fun r_3 u_3 t9 H1 locs ht9 hvm9 hw9 hB9 hz9 hk9 hS => ?_)
  have er_3 : r_3 = fX6_number x0 4 v_bF := hw9
  obtain ⟨hP, hD⟩ := back_std (w1 := (wX6_number cI cB a_me a_by a_ks v_bF)) (w2 := (wX6_word cI cB a_me a_by a_ks v_bF)) (wr := []) hP hD [0, 1] [] [0, 1] rfl rfl (by decide) (by decide) hk9 hFc hB9 ht9 (by decide) rfl
  clear hB9 hk9 hz9 hvm9 ht9 hFc hPc hDc
  generalize H1 = H at hP hS ⊢
  refine lv_l2i hx hb dX6_word_6 rfl ?_
  have hf9 : (r_3 : Int64).toInt32 = fX6_word x0 v_bF := by simp only [fX6_word, ← er_3]
  exact W.iret hx hb hr (fun t9 ht9 hW9 => ⟨⟨(r_3 : Int64).toInt32, (), rfl, hf9, ⟨by rw [ht9]; exact hP, va_K.moved hW9.alike hK, hD⟩⟩, hS.F ht9⟩) hS.2.2 dX6_word_7
theorem hdX6_word : yX6_word.cls = RX6 ∧ yX6_word.cls ≠ "java/lang/invoke/MethodHandle" ∧ yX6_word.cls ≠ "java/lang/invoke/VarHandle" ∧ (parseMethodDescriptor yX6_word.desc).map (fun d => d.parameters.length) = some 1 := by decide +kernel
noncomputable def fX6_half (x0 : Int32) (v_bF : (Nat → Int32)) : Int32 :=
  let r_2 := fX6_get x0 v_bF
  let r_12 := fX6_get (x0 + 1) v_bF
  (((r_2 <<< (8 &&& 31)) ||| r_12) : Int32).toInt16.toInt32
abbrev wX6_half (cI cB : ClassId) (a_me a_by a_ks : Nat) (v_bF : (Nat → Int32)) : va_W := [(a_me, .inr (6, [.ref a_by, .ref a_ks])), (a_by, .inl (cB, 8192, .inl v_bF))]
abbrev rmX6_half : Room := { frames := 1, cells := 0, slots := 0, locals := 21 }
abbrev qX6_half (D : va_G) (cI cB : ClassId) (a_me a_by a_ks : Nat) (v_bF : (Nat → Int32)) (x0 : Int32) : (Nat → Prop) → Array Value → State → Outcome → State → Prop := fun A9 => va_Qi (fun (r9 : Int32) (u9 : Unit) => r9 = fX6_half x0 v_bF) (fun u9 t9 => atW D (TYS cI cB) A9 (wX6_half cI cB a_me a_by a_ks v_bF) t9) A9
set_option maxHeartbeats 4000000 in
set_option maxRecDepth 100000 in
theorem kX6_half (l : Launch) (D : va_G) (cI cB : ClassId) (a_me a_by a_ks : Nat) (sz : Nat) (v_bF : (Nat → Int32)) (x0 : Int32) : MetW l yX6_half (WK yX6_half cX6_half 2 (some .int)) rmX6_half D (TYS cI cB) (wX6_half cI cB a_me a_by a_ks v_bF) sz [.ref a_me, .int x0] (qX6_half D cI cB a_me a_by a_ks v_bF x0) 0 0 := by
  refine met_std (by decide) rfl (Nat.le_of_ble_eq_true rfl) ?_
  intro p e s m below meth c A ls H hx hb hr hml hown hts hlocks hA hP hK hD hS hNW hl
  have hl : lv_has ls 2 [(0, .ref a_me), (1, .int x0)] := hl
  refine lv_aload_n hx hb dX6_half_0 rfl (lv_at hl 0 rfl) ?_
  refine lv_iload_n hx hb dX6_half_1 rfl (lv_at hl 1 rfl) ?_
  have hPc : va_P D vwCl (wX6_get cI cB a_me a_by a_ks v_bF) H := hP.sub [0, 1] rfl
  have hDc : va_D A (wX6_get cI cB a_me a_by a_ks v_bF) := hD.sub [0, 1] (by decide) rfl
  have hFc := va_free (wc := (wX6_get cI cB a_me a_by a_ks v_bF)) hD hS hA [0, 1] rfl
  refine va_calli (va_runV (As := [.int x0]) (rest := []) ⟨hx, hb, hml, hown, hts⟩ (kX6_get l D cI cB a_me a_by a_ks H.size v_bF x0) (cwV 1 hts (gd_V wd_116 wd_109 wd_110 wd_78 wd_102) rfl rfl rfl hdX6_get ⟨Nat.le_of_ble_eq_true rfl, Nat.le_of_ble_eq_true rfl⟩) (preV_std (ci := 6) (q0 := 0) hPc hK hDc hNW rfl rfl) rfl rfl hl.1 rfl (lv_room (Nat.le_of_ble_eq_true rfl)) dX6_half_2 ⟨Nat.zero_le _, Nat.zero_le _⟩) hS (fun q _ h => hFc q h) hFc (fun r_2 u_2 t9 H1 locs ht9 hvm9 hw9 hB9 hz9 hk9 hS => ?_)
  have er_2 : r_2 = fX6_get x0 v_bF := hw9
  obtain ⟨hP, hD⟩ := back_std (w1 := (wX6_get cI cB a_me a_by a_ks v_bF)) (w2 := (wX6_half cI cB a_me a_by a_ks v_bF)) (wr := []) hP hD [0, 1] [] [0, 1] rfl rfl (by decide) (by decide) hk9 hFc hB9 ht9 (by decide) rfl
  clear hB9 hk9 hz9 hvm9 ht9 hFc hPc hDc
  generalize H1 = H at hP hS ⊢
  refine lv_bipush (v := 8) hx hb dX6_half_5 (by decide) ?_
  refine lv_ishl hx hb dX6_half_7 ?_
  refine lv_aload_n hx hb dX6_half_8 rfl (lv_at hl 0 rfl) ?_
  refine lv_iload_n hx hb dX6_half_9 rfl (lv_at hl 1 rfl) ?_
  refine lv_iconst (v := 1) hx hb dX6_half_10 (by decide) ?_
  refine lv_iadd hx hb dX6_half_11 ?_
  have hPc : va_P D vwCl (wX6_get cI cB a_me a_by a_ks v_bF) H := hP.sub [0, 1] rfl
  have hDc : va_D A (wX6_get cI cB a_me a_by a_ks v_bF) := hD.sub [0, 1] (by decide) rfl
  have hFc := va_free (wc := (wX6_get cI cB a_me a_by a_ks v_bF)) hD hS hA [0, 1] rfl
  refine va_calli (va_runV (As := [.int (x0 + 1)]) (rest := [.int ((r_2 <<< (8 &&& 31)))]) ⟨hx, hb, hml, hown, hts⟩ (kX6_get l D cI cB a_me a_by a_ks H.size v_bF (x0 + 1)) (cwV 1 hts (gd_V wd_116 wd_109 wd_110 wd_78 wd_102) rfl rfl rfl hdX6_get ⟨Nat.le_of_ble_eq_true rfl, Nat.le_of_ble_eq_true rfl⟩) (preV_std (ci := 6) (q0 := 0) hPc hK hDc hNW rfl rfl) rfl rfl hl.1 rfl (lv_room (Nat.le_of_ble_eq_true rfl)) dX6_half_12 ⟨Nat.zero_le _, Nat.zero_le _⟩) hS (fun q _ h => hFc q h) hFc (fun r_12 u_12 t9 H1 locs ht9 hvm9 hw9 hB9 hz9 hk9 hS => ?_)
  have er_12 : r_12 = fX6_get (x0 + 1) v_bF := hw9
  obtain ⟨hP, hD⟩ := back_std (w1 := (wX6_get cI cB a_me a_by a_ks v_bF)) (w2 := (wX6_half cI cB a_me a_by a_ks v_bF)) (wr := []) hP hD [0, 1] [] [0, 1] rfl rfl (by decide) (by decide) hk9 hFc hB9 ht9 (by decide) rfl
  clear hB9 hk9 hz9 hvm9 ht9 hFc hPc hDc
  generalize H1 = H at hP hS ⊢
  refine lv_ior hx hb dX6_half_15 ?_
  refine lv_i2s hx hb dX6_half_16 rfl ?_
  have hf9 : (((r_2 <<< (8 &&& 31)) ||| r_12) : Int32).toInt16.toInt32 = fX6_half x0 v_bF := by simp only [fX6_half, ← er_2, ← er_12]
  exact W.iret hx hb hr (fun t9 ht9 hW9 => ⟨⟨(((r_2 <<< (8 &&& 31)) ||| r_12) : Int32).toInt16.toInt32, (), rfl, hf9, ⟨by rw [ht9]; exact hP, va_K.moved hW9.alike hK, hD⟩⟩, hS.F ht9⟩) hS.2.2 dX6_half_17
theorem hdX6_half : yX6_half.cls = RX6 ∧ yX6_half.cls ≠ "java/lang/invoke/MethodHandle" ∧ yX6_half.cls ≠ "java/lang/invoke/VarHandle" ∧ (parseMethodDescriptor yX6_half.desc).map (fun d => d.parameters.length) = some 1 := by decide +kernel
noncomputable def fX6_blockKey (x0 : Int32) (v_kF : (Nat → Int32)) : Int32 :=
  (v_kF ((x0 &&& 3) : Int32).toNatClampNeg)
abbrev wX6_blockKey (cI cB : ClassId) (a_me a_by a_ks : Nat) (v_kF : (Nat → Int32)) : va_W := [(a_me, .inr (6, [.ref a_by, .ref a_ks])), (a_ks, .inl (cI, 4, .inl v_kF))]
abbrev rmX6_blockKey : Room := { frames := 0, cells := 0, slots := 0, locals := 0 }
abbrev qX6_blockKey (D : va_G) (cI cB : ClassId) (a_me a_by a_ks : Nat) (v_kF : (Nat → Int32)) (x0 : Int32) : (Nat → Prop) → Array Value → State → Outcome → State → Prop := fun A9 => va_Qi (fun (r9 : Int32) (u9 : Unit) => r9 = fX6_blockKey x0 v_kF) (fun u9 t9 => atW D (TYS cI cB) A9 (wX6_blockKey cI cB a_me a_by a_ks v_kF) t9) A9
set_option maxHeartbeats 4000000 in
set_option maxRecDepth 100000 in
theorem kX6_blockKey (l : Launch) (D : va_G) (cI cB : ClassId) (a_me a_by a_ks : Nat) (sz : Nat) (v_kF : (Nat → Int32)) (x0 : Int32) : MetW l yX6_blockKey (WK yX6_blockKey cX6_blockKey 2 (some .int)) rmX6_blockKey D (TYS cI cB) (wX6_blockKey cI cB a_me a_by a_ks v_kF) sz [.ref a_me, .int x0] (qX6_blockKey D cI cB a_me a_by a_ks v_kF x0) 0 0 := by
  refine met_std (by decide) rfl (Nat.le_of_ble_eq_true rfl) ?_
  intro p e s m below meth c A ls H hx hb hr hml hown hts hlocks hA hP hK hD hS hNW hl
  have hl : lv_has ls 2 [(0, .ref a_me), (1, .int x0)] := hl
  have q_0 := hts _ (List.mem_cons_of_mem _ wd_68)
  refine lv_aload_n hx hb dX6_blockKey_0 rfl (lv_at hl 0 rfl) ?_
  refine va_get (D := D) (ci := 6) (v := .ref a_ks) (C := RX6) (T := TX6) (N := 2) hx hb hts in_X6 hown hK hP 0 rfl rfl 1 (by decide) q_0 (fun _ h9 => h9) rfl dX6_blockKey_1 ?_
  refine lv_iload_n hx hb dX6_blockKey_4 rfl (lv_at hl 1 rfl) ?_
  refine lv_iconst (v := 3) hx hb dX6_blockKey_5 (by decide) ?_
  refine lv_iand hx hb dX6_blockKey_6 ?_
  refine va_iald hx hb hK hP 1 0 rfl rfl (pk_andIn _ 2 (by decide) (by decide)) dX6_blockKey_7 ?_
  have hf9 : (v_kF ((x0 &&& 3) : Int32).toNatClampNeg) = fX6_blockKey x0 v_kF := by simp only [fX6_blockKey]
  exact W.iret hx hb hr (fun t9 ht9 hW9 => ⟨⟨(v_kF ((x0 &&& 3) : Int32).toNatClampNeg), (), rfl, hf9, ⟨by rw [ht9]; exact hP, va_K.moved hW9.alike hK, hD⟩⟩, hS.F ht9⟩) hS.2.2 dX6_blockKey_8
theorem hdX6_blockKey : yX6_blockKey.cls = RX6 ∧ yX6_blockKey.cls ≠ "java/lang/invoke/MethodHandle" ∧ yX6_blockKey.cls ≠ "java/lang/invoke/VarHandle" ∧ (parseMethodDescriptor yX6_blockKey.desc).map (fun d => d.parameters.length) = some 1 := by decide +kernel
noncomputable def fX6_setBlockKey (x0 : Int32) (x1 : Int32) (v_kF : (Nat → Int32)) : (Nat → Int32) :=
  let f_8 := upd v_kF ((x0 &&& 3) : Int32).toNatClampNeg (x1)
  f_8
abbrev wX6_setBlockKey (cI cB : ClassId) (a_me a_by a_ks : Nat) (v_kF : (Nat → Int32)) : va_W := [(a_me, .inr (6, [.ref a_by, .ref a_ks])), (a_ks, .inl (cI, 4, .inl v_kF))]
abbrev rmX6_setBlockKey : Room := { frames := 0, cells := 0, slots := 0, locals := 0 }
abbrev qX6_setBlockKey (D : va_G) (cI cB : ClassId) (a_me a_by a_ks : Nat) (v_kF : (Nat → Int32)) (x0 : Int32) (x1 : Int32) : (Nat → Prop) → Array Value → State → Outcome → State → Prop := fun A9 => va_Qv (fun (u9 : (Nat → Int32)) => u9 = fX6_setBlockKey x0 x1 v_kF) (fun u9 t9 => atW D (TYS cI cB) A9 (wX6_setBlockKey cI cB a_me a_by a_ks u9) t9) A9
set_option maxHeartbeats 4000000 in
set_option maxRecDepth 100000 in
theorem kX6_setBlockKey (l : Launch) (D : va_G) (cI cB : ClassId) (a_me a_by a_ks : Nat) (sz : Nat) (v_kF : (Nat → Int32)) (x0 : Int32) (x1 : Int32) : MetW l yX6_setBlockKey (WK yX6_setBlockKey cX6_setBlockKey 3 none) rmX6_setBlockKey D (TYS cI cB) (wX6_setBlockKey cI cB a_me a_by a_ks v_kF) sz [.ref a_me, .int x0, .int x1] (qX6_setBlockKey D cI cB a_me a_by a_ks v_kF x0 x1) 0 0 := by
  refine met_std (by decide) rfl (Nat.le_of_ble_eq_true rfl) ?_
  intro p e s m below meth c A ls H hx hb hr hml hown hts hlocks hA hP hK hD hS hNW hl
  have hl : lv_has ls 3 [(0, .ref a_me), (1, .int x0), (2, .int x1)] := hl
  have q_0 := hts _ (List.mem_cons_of_mem _ wd_68)
  refine lv_aload_n hx hb dX6_setBlockKey_0 rfl (lv_at hl 0 rfl) ?_
  refine va_get (D := D) (ci := 6) (v := .ref a_ks) (C := RX6) (T := TX6) (N := 2) hx hb hts in_X6 hown hK hP 0 rfl rfl 1 (by decide) q_0 (fun _ h9 => h9) rfl dX6_setBlockKey_1 ?_
  refine lv_iload_n hx hb dX6_setBlockKey_4 rfl (lv_at hl 1 rfl) ?_
  refine lv_iconst (v := 3) hx hb dX6_setBlockKey_5 (by decide) ?_
  refine lv_iand hx hb dX6_setBlockKey_6 ?_
  refine lv_iload_n hx hb dX6_setBlockKey_7 rfl (lv_at hl 2 rfl) ?_
  refine va_iast hx hb hK hP hD hS 1 0 rfl rfl (pk_andIn _ 2 (by decide) (by decide)) dX6_setBlockKey_8 (fun H locs hP hD hS => ?_)
  obtain ⟨f_8, ef_8⟩ : ∃ z : Nat → Int32, z = upd v_kF ((x0 &&& 3) : Int32).toNatClampNeg (x1) := ⟨_, rfl⟩
  have hP : va_P D vwCl (wX6_setBlockKey cI cB a_me a_by a_ks (upd v_kF ((x0 &&& 3) : Int32).toNatClampNeg (x1))) H := hP
  have hD : va_D A (wX6_setBlockKey cI cB a_me a_by a_ks (upd v_kF ((x0 &&& 3) : Int32).toNatClampNeg (x1))) := hD
  rw [← ef_8] at hP hD
  have hf9 : f_8 = fX6_setBlockKey x0 x1 v_kF := by subst ef_8; simp only [fX6_setBlockKey]
  exact W.vret hx hb hr (fun t9 ht9 hW9 => ⟨⟨f_8, rfl, hf9, ⟨by rw [ht9]; exact hP, va_K.moved hW9.alike hK, hD⟩⟩, hS.F ht9⟩) hS.2.2 dX6_setBlockKey_9
theorem hdX6_setBlockKey : yX6_setBlockKey.cls = RX6 ∧ yX6_setBlockKey.cls ≠ "java/lang/invoke/MethodHandle" ∧ yX6_setBlockKey.cls ≠ "java/lang/invoke/VarHandle" ∧ (parseMethodDescriptor yX6_setBlockKey.desc).map (fun d => d.parameters.length) = some 2 := by decide +kernel
noncomputable def fX6_refusal (x0 : Int32) (x1 : Int32) (x2 : Int32) (v_kF : (Nat → Int32)) : Int32 :=
  if x0 < 8192 then (let x_21 := (v_kF (((x0 / 2048) &&& 3) : Int32).toNatClampNeg); let m_40 : Int32 := (if x2 = 0 then (0) else (if (x_21 >>> (1 &&& 31)) = x2 then (0) else (1))); if m_40 = 0 then (0) else (if x1 = 0 then (if (x_21 &&& 1) = 0 then (0) else (4)) else (4))) else (5)
abbrev wX6_refusal (cI cB : ClassId) (a_me a_by a_ks : Nat) (v_kF : (Nat → Int32)) : va_W := [(a_me, .inr (6, [.ref a_by, .ref a_ks])), (a_ks, .inl (cI, 4, .inl v_kF))]
abbrev rmX6_refusal : Room := { frames := 0, cells := 0, slots := 0, locals := 0 }
abbrev qX6_refusal (D : va_G) (cI cB : ClassId) (a_me a_by a_ks : Nat) (v_kF : (Nat → Int32)) (x0 : Int32) (x1 : Int32) (x2 : Int32) : (Nat → Prop) → Array Value → State → Outcome → State → Prop := fun A9 => va_Qi (fun (r9 : Int32) (u9 : Unit) => r9 = fX6_refusal x0 x1 x2 v_kF) (fun u9 t9 => atW D (TYS cI cB) A9 (wX6_refusal cI cB a_me a_by a_ks v_kF) t9) A9
set_option maxHeartbeats 4000000 in
set_option maxRecDepth 100000 in
theorem kX6_refusal (l : Launch) (D : va_G) (cI cB : ClassId) (a_me a_by a_ks : Nat) (sz : Nat) (v_kF : (Nat → Int32)) (x0 : Int32) (x1 : Int32) (x2 : Int32) : MetW l yX6_refusal (WK yX6_refusal cX6_refusal 6 (some .int)) rmX6_refusal D (TYS cI cB) (wX6_refusal cI cB a_me a_by a_ks v_kF) sz [.ref a_me, .int x0, .int x1, .int x2] (qX6_refusal D cI cB a_me a_by a_ks v_kF x0 x1 x2) 0 0 := by
  refine met_std (by decide) rfl (Nat.le_of_ble_eq_true rfl) ?_
  intro p e s m below meth c A ls H hx hb hr hml hown hts hlocks hA hP hK hD hS hNW hl
  have hl : lv_has ls 6 [(0, .ref a_me), (1, .int x0), (2, .int x1), (3, .int x2)] := hl
  have q_0 := hts _ (List.mem_cons_of_mem _ wd_68)
  refine lv_iload_n hx hb dX6_refusal_0 rfl (lv_at hl 1 rfl) ?_
  refine lv_sipush (v := 8192) hx hb dX6_refusal_1 (by decide) ?_
  refine lv_icmp_lt (tgt := 9) hx hb dX6_refusal_4 (by decide) (fun c_4 => ?_) (fun c_4 => ?_)
  · skip
    refine lv_aload_n hx hb dX6_refusal_9 rfl (lv_at hl 0 rfl) ?_
    refine va_get (D := D) (ci := 6) (v := .ref a_ks) (C := RX6) (T := TX6) (N := 2) hx hb hts in_X6 hown hK hP 0 rfl rfl 1 (by decide) q_0 (fun _ h9 => h9) rfl dX6_refusal_10 ?_
    refine lv_iload_n hx hb dX6_refusal_13 rfl (lv_at hl 1 rfl) ?_
    refine lv_sipush (v := 2048) hx hb dX6_refusal_14 (by decide) ?_
    refine lv_idiv hx hb dX6_refusal_17 (by decide) ?_
    refine lv_iconst (v := 3) hx hb dX6_refusal_18 (by decide) ?_
    refine lv_iand hx hb dX6_refusal_19 ?_
    refine va_iald hx hb hK hP 1 0 rfl rfl (pk_andIn _ 2 (by decide) (by decide)) dX6_refusal_20 ?_
    refine lv_topi (fun x_21 ex_21 => ?_)
    refine lv_istore (lv' := [(4, .int x_21), (0, .ref a_me), (1, .int x0), (2, .int x1), (3, .int x2)]) hx hb dX6_refusal_21 hl (by decide) rfl (fun ls hl => ?_)
    refine lv_iload_n hx hb dX6_refusal_23 rfl (lv_at hl 4 rfl) ?_
    have J_40 : ∀ (m_40 : Int32), m_40 = (if x2 = 0 then (0) else (if (x_21 >>> (1 &&& 31)) = x2 then (0) else (1))) → ∀ (H : Heap) (locs : List Loc), va_P D vwCl (wX6_refusal cI cB a_me a_by a_ks v_kF) H → va_D A (wX6_refusal cI cB a_me a_by a_ks v_kF) → va_S A s.heap H locs → ∀ (ls : Array Slot), lv_has ls 6 [(0, .ref a_me), (1, .int x0), (2, .int x1), (3, .int x2), (4, .int x_21)] → W p l e rmX6_refusal s m ([.ref a_me, .int x0, .int x1, .int x2] : List Value).toArray below meth c H locs 0 0 (MQ below (qX6_refusal D cI cB a_me a_by a_ks v_kF x0 x1 x2 A) ([.ref a_me, .int x0, .int x1, .int x2] : List Value).toArray s 0 0 A) (F0 m 40 ls [.int m_40]) := by
      intro m_40 em_40 H locs hP hD hS ls hl
      have zm_40_0 : m_40 = 0 ∨ m_40 = 1 := by rw [em_40]; (try dsimp only); (repeat' split) <;> first | exact Or.inl rfl | exact Or.inr rfl
      refine lv_istore (lv' := [(5, .int m_40), (0, .ref a_me), (1, .int x0), (2, .int x1), (3, .int x2), (4, .int x_21)]) hx hb dX6_refusal_40 hl (by decide) rfl (fun ls hl => ?_)
      refine lv_iload hx hb dX6_refusal_42 (lv_at hl 0 rfl) ?_
      refine lv_if_eq (tgt := 62) hx hb dX6_refusal_44 (by decide) (fun c_44 => ?_) (fun c_44 => ?_)
      · skip
        refine lv_iconst (v := 0) hx hb dX6_refusal_62 (by decide) ?_
        have hf9 : 0 = fX6_refusal x0 x1 x2 v_kF := by subst em_40; subst ex_21; simp only [fX6_refusal, if_pos c_4, if_pos c_44]
        exact W.iret hx hb hr (fun t9 ht9 hW9 => ⟨⟨0, (), rfl, hf9, ⟨by rw [ht9]; exact hP, va_K.moved hW9.alike hK, hD⟩⟩, hS.F ht9⟩) hS.2.2 dX6_refusal_63
      · skip
        refine lv_iload_n hx hb dX6_refusal_47 rfl (lv_at hl 3 rfl) ?_
        refine lv_if_ne (tgt := 58) hx hb dX6_refusal_48 (by decide) (fun c_48 => ?_) (fun c_48 => ?_)
        · skip
          refine lv_iconst (v := 4) hx hb dX6_refusal_58 (by decide) ?_
          refine lv_goto (tgt := 63) hx hb dX6_refusal_59 (by decide) ?_
          have hf9 : 4 = fX6_refusal x0 x1 x2 v_kF := by subst em_40; subst ex_21; simp only [fX6_refusal, if_pos c_4, if_neg c_44, if_neg c_48]
          exact W.iret hx hb hr (fun t9 ht9 hW9 => ⟨⟨4, (), rfl, hf9, ⟨by rw [ht9]; exact hP, va_K.moved hW9.alike hK, hD⟩⟩, hS.F ht9⟩) hS.2.2 dX6_refusal_63
        · skip
          refine lv_iload hx hb dX6_refusal_51 (lv_at hl 5 rfl) ?_
          refine lv_iconst (v := 1) hx hb dX6_refusal_53 (by decide) ?_
          refine lv_iand hx hb dX6_refusal_54 ?_
          refine lv_if_eq (tgt := 62) hx hb dX6_refusal_55 (by decide) (fun c_55 => ?_) (fun c_55 => ?_)
          · skip
            refine lv_iconst (v := 0) hx hb dX6_refusal_62 (by decide) ?_
            have hf9 : 0 = fX6_refusal x0 x1 x2 v_kF := by subst em_40; subst ex_21; simp only [fX6_refusal, if_pos c_4, if_neg c_44, if_pos c_48, if_pos c_55]
            exact W.iret hx hb hr (fun t9 ht9 hW9 => ⟨⟨0, (), rfl, hf9, ⟨by rw [ht9]; exact hP, va_K.moved hW9.alike hK, hD⟩⟩, hS.F ht9⟩) hS.2.2 dX6_refusal_63
          · skip
            refine lv_iconst (v := 4) hx hb dX6_refusal_58 (by decide) ?_
            refine lv_goto (tgt := 63) hx hb dX6_refusal_59 (by decide) ?_
            have hf9 : 4 = fX6_refusal x0 x1 x2 v_kF := by subst em_40; subst ex_21; simp only [fX6_refusal, if_pos c_4, if_neg c_44, if_pos c_48, if_neg c_55]
            exact W.iret hx hb hr (fun t9 ht9 hW9 => ⟨⟨4, (), rfl, hf9, ⟨by rw [ht9]; exact hP, va_K.moved hW9.alike hK, hD⟩⟩, hS.F ht9⟩) hS.2.2 dX6_refusal_63
    refine lv_if_eq (tgt := 39) hx hb dX6_refusal_24 (by decide) (fun c_24 => ?_) (fun c_24 => ?_)
    · skip
      refine lv_iconst (v := 0) hx hb dX6_refusal_39 (by decide) ?_
      exact J_40 0 (by simp only [if_pos c_24]) _ _ hP hD hS ls (lv_sub hl [1, 2, 3, 4, 0] rfl)
    · skip
      refine lv_iload hx hb dX6_refusal_27 (lv_at hl 0 rfl) ?_
      refine lv_iconst (v := 1) hx hb dX6_refusal_29 (by decide) ?_
      refine lv_ishr hx hb dX6_refusal_30 ?_
      refine lv_iload_n hx hb dX6_refusal_31 rfl (lv_at hl 4 rfl) ?_
      refine lv_icmp_eq (tgt := 39) hx hb dX6_refusal_32 (by decide) (fun c_32 => ?_) (fun c_32 => ?_)
      · skip
        refine lv_iconst (v := 0) hx hb dX6_refusal_39 (by decide) ?_
        exact J_40 0 (by simp only [if_neg c_24, if_pos c_32]) _ _ hP hD hS ls (lv_sub hl [1, 2, 3, 4, 0] rfl)
      · skip
        refine lv_iconst (v := 1) hx hb dX6_refusal_35 (by decide) ?_
        refine lv_goto (tgt := 40) hx hb dX6_refusal_36 (by decide) ?_
        exact J_40 1 (by simp only [if_neg c_24, if_neg c_32]) _ _ hP hD hS ls (lv_sub hl [1, 2, 3, 4, 0] rfl)
  · skip
    refine lv_iconst (v := 5) hx hb dX6_refusal_7 (by decide) ?_
    have hf9 : 5 = fX6_refusal x0 x1 x2 v_kF := by simp only [fX6_refusal, if_neg c_4]
    exact W.iret hx hb hr (fun t9 ht9 hW9 => ⟨⟨5, (), rfl, hf9, ⟨by rw [ht9]; exact hP, va_K.moved hW9.alike hK, hD⟩⟩, hS.F ht9⟩) hS.2.2 dX6_refusal_8
theorem hdX6_refusal : yX6_refusal.cls = RX6 ∧ yX6_refusal.cls ≠ "java/lang/invoke/MethodHandle" ∧ yX6_refusal.cls ≠ "java/lang/invoke/VarHandle" ∧ (parseMethodDescriptor yX6_refusal.desc).map (fun d => d.parameters.length) = some 3 := by decide +kernel
