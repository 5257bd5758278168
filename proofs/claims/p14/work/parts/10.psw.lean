noncomputable def fX7_become (x0 : Int64) (v_word : Int64) : Int64 :=
  let x_6 := (x0 &&& (-3377699720527873))
  x_6
abbrev wX7_become (cI cB : ClassId) (a_ps : Nat) (v_word : Int64) : va_W := [(a_ps, .inr (7, [.long v_word]))]
abbrev rmX7_become : Room := { frames := 0, cells := 0, slots := 0, locals := 0 }
abbrev qX7_become (D : va_G) (cI cB : ClassId) (a_ps : Nat) (v_word : Int64) (x0 : Int64) : (Nat → Prop) → Array Value → State → Outcome → State → Prop := fun A9 => va_Qv (fun (u9 : Int64) => u9 = fX7_become x0 v_word) (fun u9 t9 => atW D (TYS cI cB) A9 (wX7_become cI cB a_ps u9) t9) A9
set_option maxHeartbeats 4000000 in
set_option maxRecDepth 100000 in
theorem kX7_become (l : Launch) (D : va_G) (cI cB : ClassId) (a_ps : Nat) (sz : Nat) (v_word : Int64) (x0 : Int64) : MetW l yX7_become (WK yX7_become cX7_become 3 none) rmX7_become D (TYS cI cB) (wX7_become cI cB a_ps v_word) sz [.ref a_ps, .long x0] (qX7_become D cI cB a_ps v_word x0) 0 0 := by
  refine met_std (by decide) rfl (Nat.le_of_ble_eq_true rfl) ?_
  intro p e s m below meth c A ls H hx hb hr hml hown hts hlocks hA hP hK hD hS hNW hl
  have hl : lv_has ls 3 [(0, .ref a_ps), (1, .long x0)] := hl
  have q_0 := hts _ (List.mem_cons_of_mem _ wd_118)
  have q_1 := hts _ (List.mem_cons_of_mem _ wd_9)
  refine lv_aload_n hx hb dX7_become_0 rfl (lv_at hl 0 rfl) ?_
  refine lv_lload_n hx hb dX7_become_1 rfl (lv_at hl 1 rfl) ?_
  refine lv_ldc2 (v := (-3377699720527873)) hx hb hown q_0 dX7_become_2 ?_
  refine lv_land hx hb dX7_become_5 ?_
  refine lv_topl (fun x_6 ex_6 => ?_)
  refine va_put (D := D) (ci := 7) (v := .long x_6) (ty := .long) (C := RX7) (T := TX7) (N := 1) hx hb hts in_X7 tyX7 tyX7_ok nmX7 hown hK hP hD hS 0 rfl rfl 0 (by decide) q_1 (fun _ h9 => h9) rfl (by decide +kernel) rfl rfl (Nat.le_of_ble_eq_true rfl) dX7_become_6 (fun H locs hP hD hS => ?_)
  have hP : va_P D vwCl (wX7_become cI cB a_ps x_6) H := hP
  have hD : va_D A (wX7_become cI cB a_ps x_6) := hD
  have hf9 : x_6 = fX7_become x0 v_word := by subst ex_6; simp only [fX7_become]
  exact W.vret hx hb hr (fun t9 ht9 hW9 => ⟨⟨x_6, rfl, hf9, ⟨by rw [ht9]; exact hP, va_K.moved hW9.alike hK, hD⟩⟩, hS.F ht9⟩) hS.2.2 dX7_become_9
theorem hdX7_become : yX7_become.cls = RX7 ∧ yX7_become.cls ≠ "java/lang/invoke/MethodHandle" ∧ yX7_become.cls ≠ "java/lang/invoke/VarHandle" ∧ (parseMethodDescriptor yX7_become.desc).map (fun d => d.parameters.length) = some 1 := by decide +kernel
noncomputable def fX7_has (x0 : Int32) (v_word : Int64) : Int32 :=
  if (lg_cmp ((((v_word : Int64).toUInt64 >>> (((63 - x0) : Int32).toInt64.toUInt64 &&& Int64.toUInt64 63)).toInt64 &&& 1)) (1)) = 0 then (1) else (0)
theorem zX7_has (x0 : Int32) (v_word : Int64) : (fX7_has x0 v_word) = 0 ∨ (fX7_has x0 v_word) = 1 := by unfold fX7_has; (repeat' split) <;> first | exact Or.inl rfl | exact Or.inr rfl
abbrev wX7_has (cI cB : ClassId) (a_ps : Nat) (v_word : Int64) : va_W := [(a_ps, .inr (7, [.long v_word]))]
abbrev rmX7_has : Room := { frames := 0, cells := 0, slots := 0, locals := 0 }
abbrev qX7_has (D : va_G) (cI cB : ClassId) (a_ps : Nat) (v_word : Int64) (x0 : Int32) : (Nat → Prop) → Array Value → State → Outcome → State → Prop := fun A9 => va_Qi (fun (r9 : Int32) (u9 : Unit) => r9 = fX7_has x0 v_word) (fun u9 t9 => atW D (TYS cI cB) A9 (wX7_has cI cB a_ps v_word) t9) A9
set_option maxHeartbeats 4000000 in
set_option maxRecDepth 100000 in
theorem kX7_has (l : Launch) (D : va_G) (cI cB : ClassId) (a_ps : Nat) (sz : Nat) (v_word : Int64) (x0 : Int32) : MetW l yX7_has (WK yX7_has cX7_has 2 (some .boolean)) rmX7_has D (TYS cI cB) (wX7_has cI cB a_ps v_word) sz [.ref a_ps, .int x0] (qX7_has D cI cB a_ps v_word x0) 0 0 := by
  refine met_std (by decide) rfl (Nat.le_of_ble_eq_true rfl) ?_
  intro p e s m below meth c A ls H hx hb hr hml hown hts hlocks hA hP hK hD hS hNW hl
  have hl : lv_has ls 2 [(0, .ref a_ps), (1, .int x0)] := hl
  have q_0 := hts _ (List.mem_cons_of_mem _ wd_9)
  refine lv_aload_n hx hb dX7_has_0 rfl (lv_at hl 0 rfl) ?_
  refine va_get (D := D) (ci := 7) (v := .long v_word) (C := RX7) (T := TX7) (N := 1) hx hb hts in_X7 hown hK hP 0 rfl rfl 0 (by decide) q_0 (fun _ h9 => h9) rfl dX7_has_1 ?_
  refine lv_bipush (v := 63) hx hb dX7_has_4 (by decide) ?_
  refine lv_iload_n hx hb dX7_has_6 rfl (lv_at hl 1 rfl) ?_
  refine lv_isub hx hb dX7_has_7 ?_
  refine lv_lushr hx hb dX7_has_8 rfl ?_
  refine lv_lconst (v := 1) hx hb dX7_has_9 (by decide) ?_
  refine lv_land hx hb dX7_has_10 ?_
  refine lv_lconst (v := 1) hx hb dX7_has_11 (by decide) ?_
  refine W.lcmp hx hb dX7_has_12 ?_
  refine lv_if_ne (tgt := 20) hx hb dX7_has_13 (by decide) (fun c_13 => ?_) (fun c_13 => ?_)
  · skip
    refine lv_iconst (v := 0) hx hb dX7_has_20 (by decide) ?_
    have hf9 : 0 = fX7_has x0 v_word := by simp only [fX7_has, if_neg c_13]
    exact W.zret hx hb hr (by decide) (fun t9 ht9 hW9 => ⟨⟨0, (), rfl, hf9, ⟨by rw [ht9]; exact hP, va_K.moved hW9.alike hK, hD⟩⟩, hS.F ht9⟩) hS.2.2 dX7_has_21
  · skip
    refine lv_iconst (v := 1) hx hb dX7_has_16 (by decide) ?_
    refine lv_goto (tgt := 21) hx hb dX7_has_17 (by decide) ?_
    have hf9 : 1 = fX7_has x0 v_word := by simp only [fX7_has, if_pos c_13]
    exact W.zret hx hb hr (by decide) (fun t9 ht9 hW9 => ⟨⟨1, (), rfl, hf9, ⟨by rw [ht9]; exact hP, va_K.moved hW9.alike hK, hD⟩⟩, hS.F ht9⟩) hS.2.2 dX7_has_21
theorem hdX7_has : yX7_has.cls = RX7 ∧ yX7_has.cls ≠ "java/lang/invoke/MethodHandle" ∧ yX7_has.cls ≠ "java/lang/invoke/VarHandle" ∧ (parseMethodDescriptor yX7_has.desc).map (fun d => d.parameters.length) = some 1 := by decide +kernel
noncomputable def fX7_change (x0 : Int32) (x1 : Int32) (x2 : Int32) (v_word : Int64) : Int64 :=
  let x_4 := (63 - x0)
  let x_11 := ((1 <<< ((x1 : Int32).toInt64 &&& 63)) - 1)
  let x_37 := ((v_word &&& ((x_11 <<< ((x_4 : Int32).toInt64 &&& 63)) ^^^ (-1))) ||| (((x2 : Int32).toInt64 &&& x_11) <<< ((x_4 : Int32).toInt64 &&& 63)))
  x_37
abbrev wX7_change (cI cB : ClassId) (a_ps : Nat) (v_word : Int64) : va_W := [(a_ps, .inr (7, [.long v_word]))]
abbrev rmX7_change : Room := { frames := 0, cells := 0, slots := 0, locals := 0 }
abbrev qX7_change (D : va_G) (cI cB : ClassId) (a_ps : Nat) (v_word : Int64) (x0 : Int32) (x1 : Int32) (x2 : Int32) : (Nat → Prop) → Array Value → State → Outcome → State → Prop := fun A9 => va_Qv (fun (u9 : Int64) => u9 = fX7_change x0 x1 x2 v_word) (fun u9 t9 => atW D (TYS cI cB) A9 (wX7_change cI cB a_ps u9) t9) A9
set_option maxHeartbeats 4000000 in
set_option maxRecDepth 100000 in
theorem kX7_change (l : Launch) (D : va_G) (cI cB : ClassId) (a_ps : Nat) (sz : Nat) (v_word : Int64) (x0 : Int32) (x1 : Int32) (x2 : Int32) : MetW l yX7_change (WK yX7_change cX7_change 7 none) rmX7_change D (TYS cI cB) (wX7_change cI cB a_ps v_word) sz [.ref a_ps, .int x0, .int x1, .int x2] (qX7_change D cI cB a_ps v_word x0 x1 x2) 0 0 := by
  refine met_std (by decide) rfl (Nat.le_of_ble_eq_true rfl) ?_
  intro p e s m below meth c A ls H hx hb hr hml hown hts hlocks hA hP hK hD hS hNW hl
  have hl : lv_has ls 7 [(0, .ref a_ps), (1, .int x0), (2, .int x1), (3, .int x2)] := hl
  have q_0 := hts _ (List.mem_cons_of_mem _ wd_9)
  have q_1 := hts _ (List.mem_cons_of_mem _ wd_10)
  refine lv_bipush (v := 63) hx hb dX7_change_0 (by decide) ?_
  refine lv_iload_n hx hb dX7_change_2 rfl (lv_at hl 1 rfl) ?_
  refine lv_isub hx hb dX7_change_3 ?_
  refine lv_topi (fun x_4 ex_4 => ?_)
  refine lv_istore (lv' := [(4, .int x_4), (0, .ref a_ps), (1, .int x0), (2, .int x1), (3, .int x2)]) hx hb dX7_change_4 hl (by decide) rfl (fun ls hl => ?_)
  refine lv_lconst (v := 1) hx hb dX7_change_6 (by decide) ?_
  refine lv_iload_n hx hb dX7_change_7 rfl (lv_at hl 3 rfl) ?_
  refine lv_lshl hx hb dX7_change_8 rfl ?_
  refine lv_lconst (v := 1) hx hb dX7_change_9 (by decide) ?_
  refine lv_lsub hx hb dX7_change_10 ?_
  refine lv_topl (fun x_11 ex_11 => ?_)
  refine lv_lstore (lv' := [(5, .long x_11), (4, .int x_4), (0, .ref a_ps), (1, .int x0), (2, .int x1), (3, .int x2)]) hx hb dX7_change_11 hl (by decide) rfl (fun ls hl => ?_)
  refine lv_aload_n hx hb dX7_change_13 rfl (lv_at hl 2 rfl) ?_
  refine lv_aload_n hx hb dX7_change_14 rfl (lv_at hl 2 rfl) ?_
  refine va_get (D := D) (ci := 7) (v := .long v_word) (C := RX7) (T := TX7) (N := 1) hx hb hts in_X7 hown hK hP 0 rfl rfl 0 (by decide) q_0 (fun _ h9 => h9) rfl dX7_change_15 ?_
  refine lv_lload hx hb dX7_change_18 (lv_at hl 0 rfl) ?_
  refine lv_iload hx hb dX7_change_20 (lv_at hl 1 rfl) ?_
  refine lv_lshl hx hb dX7_change_22 rfl ?_
  refine lv_ldc2 (v := (-1)) hx hb hown q_1 dX7_change_23 ?_
  refine lv_lxor hx hb dX7_change_26 ?_
  refine lv_land hx hb dX7_change_27 ?_
  refine lv_iload_n hx hb dX7_change_28 rfl (lv_at hl 5 rfl) ?_
  refine lv_i2l hx hb dX7_change_29 rfl ?_
  refine lv_lload hx hb dX7_change_30 (lv_at hl 0 rfl) ?_
  refine lv_land hx hb dX7_change_32 ?_
  refine lv_iload hx hb dX7_change_33 (lv_at hl 1 rfl) ?_
  refine lv_lshl hx hb dX7_change_35 rfl ?_
  refine lv_lor hx hb dX7_change_36 ?_
  refine lv_topl (fun x_37 ex_37 => ?_)
  refine va_put (D := D) (ci := 7) (v := .long x_37) (ty := .long) (C := RX7) (T := TX7) (N := 1) hx hb hts in_X7 tyX7 tyX7_ok nmX7 hown hK hP hD hS 0 rfl rfl 0 (by decide) q_0 (fun _ h9 => h9) rfl (by decide +kernel) rfl rfl (Nat.le_of_ble_eq_true rfl) dX7_change_37 (fun H locs hP hD hS => ?_)
  have hP : va_P D vwCl (wX7_change cI cB a_ps x_37) H := hP
  have hD : va_D A (wX7_change cI cB a_ps x_37) := hD
  have hf9 : x_37 = fX7_change x0 x1 x2 v_word := by subst ex_37; subst ex_11; subst ex_4; simp only [fX7_change]
  exact W.vret hx hb hr (fun t9 ht9 hW9 => ⟨⟨x_37, rfl, hf9, ⟨by rw [ht9]; exact hP, va_K.moved hW9.alike hK, hD⟩⟩, hS.F ht9⟩) hS.2.2 dX7_change_40
theorem hdX7_change : yX7_change.cls = RX7 ∧ yX7_change.cls ≠ "java/lang/invoke/MethodHandle" ∧ yX7_change.cls ≠ "java/lang/invoke/VarHandle" ∧ (parseMethodDescriptor yX7_change.desc).map (fun d => d.parameters.length) = some 3 := by decide +kernel
noncomputable def fX7_setSystemMask (x0 : Int32) (v_word : Int64) : Int64 :=
  let u_6 := fX7_change 7 8 x0 v_word
  u_6
abbrev wX7_setSystemMask (cI cB : ClassId) (a_ps : Nat) (v_word : Int64) : va_W := [(a_ps, .inr (7, [.long v_word]))]
abbrev rmX7_setSystemMask : Room := { frames := 1, cells := 0, slots := 0, locals := 26 }
abbrev qX7_setSystemMask (D : va_G) (cI cB : ClassId) (a_ps : Nat) (v_word : Int64) (x0 : Int32) : (Nat → Prop) → Array Value → State → Outcome → State → Prop := fun A9 => va_Qv (fun (u9 : Int64) => u9 = fX7_setSystemMask x0 v_word) (fun u9 t9 => atW D (TYS cI cB) A9 (wX7_setSystemMask cI cB a_ps u9) t9) A9
set_option maxHeartbeats 4000000 in
set_option maxRecDepth 100000 in
theorem kX7_setSystemMask (l : Launch) (D : va_G) (cI cB : ClassId) (a_ps : Nat) (sz : Nat) (v_word : Int64) (x0 : Int32) : MetW l yX7_setSystemMask (WK yX7_setSystemMask cX7_setSystemMask 2 none) rmX7_setSystemMask D (TYS cI cB) (wX7_setSystemMask cI cB a_ps v_word) sz [.ref a_ps, .int x0] (qX7_setSystemMask D cI cB a_ps v_word x0) 0 0 := by
  refine met_std (by decide) rfl (Nat.le_of_ble_eq_true rfl) ?_
  intro p e s m below meth c A ls H hx hb hr hml hown hts hlocks hA hP hK hD hS hNW hl
  have hl : lv_has ls 2 [(0, .ref a_ps), (1, .int x0)] := hl
  refine lv_aload_n hx hb dX7_setSystemMask_0 rfl (lv_at hl 0 rfl) ?_
  refine lv_bipush (v := 7) hx hb dX7_setSystemMask_1 (by decide) ?_
  refine lv_bipush (v := 8) hx hb dX7_setSystemMask_3 (by decide) ?_
  refine lv_iload_n hx hb dX7_setSystemMask_5 rfl (lv_at hl 1 rfl) ?_
  have hPc : va_P D vwCl (wX7_change cI cB a_ps v_word) H := hP.sub [0] rfl
  have hDc : va_D A (wX7_change cI cB a_ps v_word) := hD.sub [0] (by decide) rfl
  have hFc := va_free (wc := (wX7_change cI cB a_ps v_word)) hD hS hA [0] rfl
  refine va_callv (va_runV (As := [.int 7, .int 8, .int x0]) (rest := []) ⟨hx, hb, hml, hown, hts⟩ (kX7_change l D cI cB a_ps H.size v_word 7 8 x0) (cwV 3 hts (gd_V wd_12 wd_13 wd_14 wd_15 wd_8) rfl rfl rfl hdX7_change ⟨Nat.le_of_ble_eq_true rfl, Nat.le_of_ble_eq_true rfl⟩) (preV_std (ci := 7) (q0 := 0) hPc hK hDc hNW rfl rfl) rfl rfl hl.1 rfl (lv_room (Nat.le_of_ble_eq_true rfl)) dX7_setSystemMask_6 ⟨Nat.zero_le _, Nat.zero_le _⟩) hS (fun q _ h => hFc q h) hFc (fun u_6 t9 H1 locs ht9 hvm9 hw9 hB9 hz9 hk9 hS => ?_)
  have eu_6 : u_6 = fX7_change 7 8 x0 v_word := hw9
  obtain ⟨hP, hD⟩ := back_std (w1 := (wX7_change cI cB a_ps u_6)) (w2 := (wX7_setSystemMask cI cB a_ps u_6)) (wr := []) hP hD [0] [] [0] rfl rfl (by decide) (by decide) hk9 hFc hB9 ht9 (by decide) rfl
  clear hB9 hk9 hz9 hvm9 ht9 hFc hPc hDc
  generalize H1 = H at hP hS ⊢
  have hf9 : u_6 = fX7_setSystemMask x0 v_word := by simp only [fX7_setSystemMask, ← eu_6]
  exact W.vret hx hb hr (fun t9 ht9 hW9 => ⟨⟨u_6, rfl, hf9, ⟨by rw [ht9]; exact hP, va_K.moved hW9.alike hK, hD⟩⟩, hS.F ht9⟩) hS.2.2 dX7_setSystemMask_9
theorem hdX7_setSystemMask : yX7_setSystemMask.cls = RX7 ∧ yX7_setSystemMask.cls ≠ "java/lang/invoke/MethodHandle" ∧ yX7_setSystemMask.cls ≠ "java/lang/invoke/VarHandle" ∧ (parseMethodDescriptor yX7_setSystemMask.desc).map (fun d => d.parameters.length) = some 1 := by decide +kernel
noncomputable def fX7_protectionKey (v_word : Int64) : Int32 :=
  ((((v_word : Int64).toUInt64 >>> ((52 : Int32).toInt64.toUInt64 &&& Int64.toUInt64 63)).toInt64 : Int64).toInt32 &&& 15)
abbrev wX7_protectionKey (cI cB : ClassId) (a_ps : Nat) (v_word : Int64) : va_W := [(a_ps, .inr (7, [.long v_word]))]
abbrev rmX7_protectionKey : Room := { frames := 0, cells := 0, slots := 0, locals := 0 }
abbrev qX7_protectionKey (D : va_G) (cI cB : ClassId) (a_ps : Nat) (v_word : Int64) : (Nat → Prop) → Array Value → State → Outcome → State → Prop := fun A9 => va_Qi (fun (r9 : Int32) (u9 : Unit) => r9 = fX7_protectionKey v_word) (fun u9 t9 => atW D (TYS cI cB) A9 (wX7_protectionKey cI cB a_ps v_word) t9) A9
set_option maxHeartbeats 4000000 in
set_option maxRecDepth 100000 in
theorem kX7_protectionKey (l : Launch) (D : va_G) (cI cB : ClassId) (a_ps : Nat) (sz : Nat) (v_word : Int64) : MetW l yX7_protectionKey (WK yX7_protectionKey cX7_protectionKey 1 (some .int)) rmX7_protectionKey D (TYS cI cB) (wX7_protectionKey cI cB a_ps v_word) sz [.ref a_ps] (qX7_protectionKey D cI cB a_ps v_word) 0 0 := by
  refine met_std (by decide) rfl (Nat.le_of_ble_eq_true rfl) ?_
  intro p e s m below meth c A ls H hx hb hr hml hown hts hlocks hA hP hK hD hS hNW hl
  have hl : lv_has ls 1 [(0, .ref a_ps)] := hl
  have q_0 := hts _ (List.mem_cons_of_mem _ wd_9)
  refine lv_aload_n hx hb dX7_protectionKey_0 rfl (lv_at hl 0 rfl) ?_
  refine va_get (D := D) (ci := 7) (v := .long v_word) (C := RX7) (T := TX7) (N := 1) hx hb hts in_X7 hown hK hP 0 rfl rfl 0 (by decide) q_0 (fun _ h9 => h9) rfl dX7_protectionKey_1 ?_
  refine lv_bipush (v := 52) hx hb dX7_protectionKey_4 (by decide) ?_
  refine lv_lushr hx hb dX7_protectionKey_6 rfl ?_
  refine lv_l2i hx hb dX7_protectionKey_7 rfl ?_
  refine lv_bipush (v := 15) hx hb dX7_protectionKey_8 (by decide) ?_
  refine lv_iand hx hb dX7_protectionKey_10 ?_
  have hf9 : ((((v_word : Int64).toUInt64 >>> ((52 : Int32).toInt64.toUInt64 &&& Int64.toUInt64 63)).toInt64 : Int64).toInt32 &&& 15) = fX7_protectionKey v_word := by simp only [fX7_protectionKey]
  exact W.iret hx hb hr (fun t9 ht9 hW9 => ⟨⟨((((v_word : Int64).toUInt64 >>> ((52 : Int32).toInt64.toUInt64 &&& Int64.toUInt64 63)).toInt64 : Int64).toInt32 &&& 15), (), rfl, hf9, ⟨by rw [ht9]; exact hP, va_K.moved hW9.alike hK, hD⟩⟩, hS.F ht9⟩) hS.2.2 dX7_protectionKey_11
theorem hdX7_protectionKey : yX7_protectionKey.cls = RX7 ∧ yX7_protectionKey.cls ≠ "java/lang/invoke/MethodHandle" ∧ yX7_protectionKey.cls ≠ "java/lang/invoke/VarHandle" ∧ (parseMethodDescriptor yX7_protectionKey.desc).map (fun d => d.parameters.length) = some 0 := by decide +kernel
noncomputable def fX7_setCode (x0 : Int32) (v_word : Int64) : Int64 :=
  let u_6 := fX7_change 31 16 x0 v_word
  u_6
abbrev wX7_setCode (cI cB : ClassId) (a_ps : Nat) (v_word : Int64) : va_W := [(a_ps, .inr (7, [.long v_word]))]
abbrev rmX7_setCode : Room := { frames := 1, cells := 0, slots := 0, locals := 26 }
abbrev qX7_setCode (D : va_G) (cI cB : ClassId) (a_ps : Nat) (v_word : Int64) (x0 : Int32) : (Nat → Prop) → Array Value → State → Outcome → State → Prop := fun A9 => va_Qv (fun (u9 : Int64) => u9 = fX7_setCode x0 v_word) (fun u9 t9 => atW D (TYS cI cB) A9 (wX7_setCode cI cB a_ps u9) t9) A9
set_option maxHeartbeats 4000000 in
set_option maxRecDepth 100000 in
theorem kX7_setCode (l : Launch) (D : va_G) (cI cB : ClassId) (a_ps : Nat) (sz : Nat) (v_word : Int64) (x0 : Int32) : MetW l yX7_setCode (WK yX7_setCode cX7_setCode 2 none) rmX7_setCode D (TYS cI cB) (wX7_setCode cI cB a_ps v_word) sz [.ref a_ps, .int x0] (qX7_setCode D cI cB a_ps v_word x0) 0 0 := by
  refine met_std (by decide) rfl (Nat.le_of_ble_eq_true rfl) ?_
  intro p e s m below meth c A ls H hx hb hr hml hown hts hlocks hA hP hK hD hS hNW hl
  have hl : lv_has ls 2 [(0, .ref a_ps), (1, .int x0)] := hl
  refine lv_aload_n hx hb dX7_setCode_0 rfl (lv_at hl 0 rfl) ?_
  refine lv_bipush (v := 31) hx hb dX7_setCode_1 (by decide) ?_
  refine lv_bipush (v := 16) hx hb dX7_setCode_3 (by decide) ?_
  refine lv_iload_n hx hb dX7_setCode_5 rfl (lv_at hl 1 rfl) ?_
  have hPc : va_P D vwCl (wX7_change cI cB a_ps v_word) H := hP.sub [0] rfl
  have hDc : va_D A (wX7_change cI cB a_ps v_word) := hD.sub [0] (by decide) rfl
  have hFc := va_free (wc := (wX7_change cI cB a_ps v_word)) hD hS hA [0] rfl
  refine va_callv (va_runV (As := [.int 31, .int 16, .int x0]) (rest := []) ⟨hx, hb, hml, hown, hts⟩ (kX7_change l D cI cB a_ps H.size v_word 31 16 x0) (cwV 3 hts (gd_V wd_12 wd_13 wd_14 wd_15 wd_8) rfl rfl rfl hdX7_change ⟨Nat.le_of_ble_eq_true rfl, Nat.le_of_ble_eq_true rfl⟩) (preV_std (ci := 7) (q0 := 0) hPc hK hDc hNW rfl rfl) rfl rfl hl.1 rfl (lv_room (Nat.le_of_ble_eq_true rfl)) dX7_setCode_6 ⟨Nat.zero_le _, Nat.zero_le _⟩) hS (fun q _ h => hFc q h) hFc (fun u_6 t9 H1 locs ht9 hvm9 hw9 hB9 hz9 hk9 hS => ?_)
  have eu_6 : u_6 = fX7_change 31 16 x0 v_word := hw9
  obtain ⟨hP, hD⟩ := back_std (w1 := (wX7_change cI cB a_ps u_6)) (w2 := (wX7_setCode cI cB a_ps u_6)) (wr := []) hP hD [0] [] [0] rfl rfl (by decide) (by decide) hk9 hFc hB9 ht9 (by decide) rfl
  clear hB9 hk9 hz9 hvm9 ht9 hFc hPc hDc
  generalize H1 = H at hP hS ⊢
  have hf9 : u_6 = fX7_setCode x0 v_word := by simp only [fX7_setCode, ← eu_6]
  exact W.vret hx hb hr (fun t9 ht9 hW9 => ⟨⟨u_6, rfl, hf9, ⟨by rw [ht9]; exact hP, va_K.moved hW9.alike hK, hD⟩⟩, hS.F ht9⟩) hS.2.2 dX7_setCode_9
theorem hdX7_setCode : yX7_setCode.cls = RX7 ∧ yX7_setCode.cls ≠ "java/lang/invoke/MethodHandle" ∧ yX7_setCode.cls ≠ "java/lang/invoke/VarHandle" ∧ (parseMethodDescriptor yX7_setCode.desc).map (fun d => d.parameters.length) = some 1 := by decide +kernel
noncomputable def fX7_setLength (x0 : Int32) (v_word : Int64) : Int64 :=
  let u_5 := fX7_change 33 2 x0 v_word
  u_5
abbrev wX7_setLength (cI cB : ClassId) (a_ps : Nat) (v_word : Int64) : va_W := [(a_ps, .inr (7, [.long v_word]))]
abbrev rmX7_setLength : Room := { frames := 1, cells := 0, slots := 0, locals := 26 }
abbrev qX7_setLength (D : va_G) (cI cB : ClassId) (a_ps : Nat) (v_word : Int64) (x0 : Int32) : (Nat → Prop) → Array Value → State → Outcome → State → Prop := fun A9 => va_Qv (fun (u9 : Int64) => u9 = fX7_setLength x0 v_word) (fun u9 t9 => atW D (TYS cI cB) A9 (wX7_setLength cI cB a_ps u9) t9) A9
set_option maxHeartbeats 4000000 in
set_option maxRecDepth 100000 in
theorem kX7_setLength (l : Launch) (D : va_G) (cI cB : ClassId) (a_ps : Nat) (sz : Nat) (v_word : Int64) (x0 : Int32) : MetW l yX7_setLength (WK yX7_setLength cX7_setLength 2 none) rmX7_setLength D (TYS cI cB) (wX7_setLength cI cB a_ps v_word) sz [.ref a_ps, .int x0] (qX7_setLength D cI cB a_ps v_word x0) 0 0 := by
  refine met_std (by decide) rfl (Nat.le_of_ble_eq_true rfl) ?_
  intro p e s m below meth c A ls H hx hb hr hml hown hts hlocks hA hP hK hD hS hNW hl
  have hl : lv_has ls 2 [(0, .ref a_ps), (1, .int x0)] := hl
  refine lv_aload_n hx hb dX7_setLength_0 rfl (lv_at hl 0 rfl) ?_
  refine lv_bipush (v := 33) hx hb dX7_setLength_1 (by decide) ?_
  refine lv_iconst (v := 2) hx hb dX7_setLength_3 (by decide) ?_
  refine lv_iload_n hx hb dX7_setLength_4 rfl (lv_at hl 1 rfl) ?_
  have hPc : va_P D vwCl (wX7_change cI cB a_ps v_word) H := hP.sub [0] rfl
  have hDc : va_D A (wX7_change cI cB a_ps v_word) := hD.sub [0] (by decide) rfl
  have hFc := va_free (wc := (wX7_change cI cB a_ps v_word)) hD hS hA [0] rfl
  refine va_callv (va_runV (As := [.int 33, .int 2, .int x0]) (rest := []) ⟨hx, hb, hml, hown, hts⟩ (kX7_change l D cI cB a_ps H.size v_word 33 2 x0) (cwV 3 hts (gd_V wd_12 wd_13 wd_14 wd_15 wd_8) rfl rfl rfl hdX7_change ⟨Nat.le_of_ble_eq_true rfl, Nat.le_of_ble_eq_true rfl⟩) (preV_std (ci := 7) (q0 := 0) hPc hK hDc hNW rfl rfl) rfl rfl hl.1 rfl (lv_room (Nat.le_of_ble_eq_true rfl)) dX7_setLength_5 ⟨Nat.zero_le _, Nat.zero_le _⟩) hS (fun q _ h => hFc q h) hFc (fun u_5 t9 H1 locs ht9 hvm9 hw9 hB9 hz9 hk9 hS => ?_)
  have eu_5 : u_5 = fX7_change 33 2 x0 v_word := hw9
  obtain ⟨hP, hD⟩ := back_std (w1 := (wX7_change cI cB a_ps u_5)) (w2 := (wX7_setLength cI cB a_ps u_5)) (wr := []) hP hD [0] [] [0] rfl rfl (by decide) (by decide) hk9 hFc hB9 ht9 (by decide) rfl
  clear hB9 hk9 hz9 hvm9 ht9 hFc hPc hDc
  generalize H1 = H at hP hS ⊢
  have hf9 : u_5 = fX7_setLength x0 v_word := by simp only [fX7_setLength, ← eu_5]
  exact W.vret hx hb hr (fun t9 ht9 hW9 => ⟨⟨u_5, rfl, hf9, ⟨by rw [ht9]; exact hP, va_K.moved hW9.alike hK, hD⟩⟩, hS.F ht9⟩) hS.2.2 dX7_setLength_8
theorem hdX7_setLength : yX7_setLength.cls = RX7 ∧ yX7_setLength.cls ≠ "java/lang/invoke/MethodHandle" ∧ yX7_setLength.cls ≠ "java/lang/invoke/VarHandle" ∧ (parseMethodDescriptor yX7_setLength.desc).map (fun d => d.parameters.length) = some 1 := by decide +kernel
noncomputable def fX7_condition (v_word : Int64) : Int32 :=
  ((((v_word : Int64).toUInt64 >>> ((28 : Int32).toInt64.toUInt64 &&& Int64.toUInt64 63)).toInt64 : Int64).toInt32 &&& 3)
abbrev wX7_condition (cI cB : ClassId) (a_ps : Nat) (v_word : Int64) : va_W := [(a_ps, .inr (7, [.long v_word]))]
abbrev rmX7_condition : Room := { frames := 0, cells := 0, slots := 0, locals := 0 }
abbrev qX7_condition (D : va_G) (cI cB : ClassId) (a_ps : Nat) (v_word : Int64) : (Nat → Prop) → Array Value → State → Outcome → State → Prop := fun A9 => va_Qi (fun (r9 : Int32) (u9 : Unit) => r9 = fX7_condition v_word) (fun u9 t9 => atW D (TYS cI cB) A9 (wX7_condition cI cB a_ps v_word) t9) A9
set_option maxHeartbeats 4000000 in
set_option maxRecDepth 100000 in
theorem kX7_condition (l : Launch) (D : va_G) (cI cB : ClassId) (a_ps : Nat) (sz : Nat) (v_word : Int64) : MetW l yX7_condition (WK yX7_condition cX7_condition 1 (some .int)) rmX7_condition D (TYS cI cB) (wX7_condition cI cB a_ps v_word) sz [.ref a_ps] (qX7_condition D cI cB a_ps v_word) 0 0 := by
  refine met_std (by decide) rfl (Nat.le_of_ble_eq_true rfl) ?_
  intro p e s m below meth c A ls H hx hb hr hml hown hts hlocks hA hP hK hD hS hNW hl
  have hl : lv_has ls 1 [(0, .ref a_ps)] := hl
  have q_0 := hts _ (List.mem_cons_of_mem _ wd_9)
  refine lv_aload_n hx hb dX7_condition_0 rfl (lv_at hl 0 rfl) ?_
  refine va_get (D := D) (ci := 7) (v := .long v_word) (C := RX7) (T := TX7) (N := 1) hx hb hts in_X7 hown hK hP 0 rfl rfl 0 (by decide) q_0 (fun _ h9 => h9) rfl dX7_condition_1 ?_
  refine lv_bipush (v := 28) hx hb dX7_condition_4 (by decide) ?_
  refine lv_lushr hx hb dX7_condition_6 rfl ?_
  refine lv_l2i hx hb dX7_condition_7 rfl ?_
  refine lv_iconst (v := 3) hx hb dX7_condition_8 (by decide) ?_
  refine lv_iand hx hb dX7_condition_9 ?_
  have hf9 : ((((v_word : Int64).toUInt64 >>> ((28 : Int32).toInt64.toUInt64 &&& Int64.toUInt64 63)).toInt64 : Int64).toInt32 &&& 3) = fX7_condition v_word := by simp only [fX7_condition]
  exact W.iret hx hb hr (fun t9 ht9 hW9 => ⟨⟨((((v_word : Int64).toUInt64 >>> ((28 : Int32).toInt64.toUInt64 &&& Int64.toUInt64 63)).toInt64 : Int64).toInt32 &&& 3), (), rfl, hf9, ⟨by rw [ht9]; exact hP, va_K.moved hW9.alike hK, hD⟩⟩, hS.F ht9⟩) hS.2.2 dX7_condition_10
theorem hdX7_condition : yX7_condition.cls = RX7 ∧ yX7_condition.cls ≠ "java/lang/invoke/MethodHandle" ∧ yX7_condition.cls ≠ "java/lang/invoke/VarHandle" ∧ (parseMethodDescriptor yX7_condition.desc).map (fun d => d.parameters.length) = some 0 := by decide +kernel
noncomputable def fX7_setCondition (x0 : Int32) (v_word : Int64) : Int64 :=
  let x_19 := ((v_word &&& (-805306369)) ||| (((x0 : Int32).toInt64 &&& 3) <<< ((28 : Int32).toInt64 &&& 63)))
  x_19
abbrev wX7_setCondition (cI cB : ClassId) (a_ps : Nat) (v_word : Int64) : va_W := [(a_ps, .inr (7, [.long v_word]))]
abbrev rmX7_setCondition : Room := { frames := 0, cells := 0, slots := 0, locals := 0 }
abbrev qX7_setCondition (D : va_G) (cI cB : ClassId) (a_ps : Nat) (v_word : Int64) (x0 : Int32) : (Nat → Prop) → Array Value → State → Outcome → State → Prop := fun A9 => va_Qv (fun (u9 : Int64) => u9 = fX7_setCondition x0 v_word) (fun u9 t9 => atW D (TYS cI cB) A9 (wX7_setCondition cI cB a_ps u9) t9) A9
set_option maxHeartbeats 4000000 in
set_option maxRecDepth 100000 in
theorem kX7_setCondition (l : Launch) (D : va_G) (cI cB : ClassId) (a_ps : Nat) (sz : Nat) (v_word : Int64) (x0 : Int32) : MetW l yX7_setCondition (WK yX7_setCondition cX7_setCondition 2 none) rmX7_setCondition D (TYS cI cB) (wX7_setCondition cI cB a_ps v_word) sz [.ref a_ps, .int x0] (qX7_setCondition D cI cB a_ps v_word x0) 0 0 := by
  refine met_std (by decide) rfl (Nat.le_of_ble_eq_true rfl) ?_
  intro p e s m below meth c A ls H hx hb hr hml hown hts hlocks hA hP hK hD hS hNW hl
  have hl : lv_has ls 2 [(0, .ref a_ps), (1, .int x0)] := hl
  have q_0 := hts _ (List.mem_cons_of_mem _ wd_9)
  have q_1 := hts _ (List.mem_cons_of_mem _ wd_237)
  have q_2 := hts _ (List.mem_cons_of_mem _ wd_238)
  refine lv_aload_n hx hb dX7_setCondition_0 rfl (lv_at hl 0 rfl) ?_
  refine lv_aload_n hx hb dX7_setCondition_1 rfl (lv_at hl 0 rfl) ?_
  refine va_get (D := D) (ci := 7) (v := .long v_word) (C := RX7) (T := TX7) (N := 1) hx hb hts in_X7 hown hK hP 0 rfl rfl 0 (by decide) q_0 (fun _ h9 => h9) rfl dX7_setCondition_2 ?_
  refine lv_ldc2 (v := (-805306369)) hx hb hown q_1 dX7_setCondition_5 ?_
  refine lv_land hx hb dX7_setCondition_8 ?_
  refine lv_iload_n hx hb dX7_setCondition_9 rfl (lv_at hl 1 rfl) ?_
  refine lv_i2l hx hb dX7_setCondition_10 rfl ?_
  refine lv_ldc2 (v := 3) hx hb hown q_2 dX7_setCondition_11 ?_
  refine lv_land hx hb dX7_setCondition_14 ?_
  refine lv_bipush (v := 28) hx hb dX7_setCondition_15 (by decide) ?_
  refine lv_lshl hx hb dX7_setCondition_17 rfl ?_
  refine lv_lor hx hb dX7_setCondition_18 ?_
  refine lv_topl (fun x_19 ex_19 => ?_)
  refine va_put (D := D) (ci := 7) (v := .long x_19) (ty := .long) (C := RX7) (T := TX7) (N := 1) hx hb hts in_X7 tyX7 tyX7_ok nmX7 hown hK hP hD hS 0 rfl rfl 0 (by decide) q_0 (fun _ h9 => h9) rfl (by decide +kernel) rfl rfl (Nat.le_of_ble_eq_true rfl) dX7_setCondition_19 (fun H locs hP hD hS => ?_)
  have hP : va_P D vwCl (wX7_setCondition cI cB a_ps x_19) H := hP
  have hD : va_D A (wX7_setCondition cI cB a_ps x_19) := hD
  have hf9 : x_19 = fX7_setCondition x0 v_word := by subst ex_19; simp only [fX7_setCondition]
  exact W.vret hx hb hr (fun t9 ht9 hW9 => ⟨⟨x_19, rfl, hf9, ⟨by rw [ht9]; exact hP, va_K.moved hW9.alike hK, hD⟩⟩, hS.F ht9⟩) hS.2.2 dX7_setCondition_22
theorem hdX7_setCondition : yX7_setCondition.cls = RX7 ∧ yX7_setCondition.cls ≠ "java/lang/invoke/MethodHandle" ∧ yX7_setCondition.cls ≠ "java/lang/invoke/VarHandle" ∧ (parseMethodDescriptor yX7_setCondition.desc).map (fun d => d.parameters.length) = some 1 := by decide +kernel
noncomputable def fX7_setConditionAndProgramMask (x0 : Int32) (v_word : Int64) : Int64 :=
  let u_6 := fX7_change 39 6 x0 v_word
  u_6
abbrev wX7_setConditionAndProgramMask (cI cB : ClassId) (a_ps : Nat) (v_word : Int64) : va_W := [(a_ps, .inr (7, [.long v_word]))]
abbrev rmX7_setConditionAndProgramMask : Room := { frames := 1, cells := 0, slots := 0, locals := 26 }
abbrev qX7_setConditionAndProgramMask (D : va_G) (cI cB : ClassId) (a_ps : Nat) (v_word : Int64) (x0 : Int32) : (Nat → Prop) → Array Value → State → Outcome → State → Prop := fun A9 => va_Qv (fun (u9 : Int64) => u9 = fX7_setConditionAndProgramMask x0 v_word) (fun u9 t9 => atW D (TYS cI cB) A9 (wX7_setConditionAndProgramMask cI cB a_ps u9) t9) A9
set_option maxHeartbeats 4000000 in
set_option maxRecDepth 100000 in
theorem kX7_setConditionAndProgramMask (l : Launch) (D : va_G) (cI cB : ClassId) (a_ps : Nat) (sz : Nat) (v_word : Int64) (x0 : Int32) : MetW l yX7_setConditionAndProgramMask (WK yX7_setConditionAndProgramMask cX7_setConditionAndProgramMask 2 none) rmX7_setConditionAndProgramMask D (TYS cI cB) (wX7_setConditionAndProgramMask cI cB a_ps v_word) sz [.ref a_ps, .int x0] (qX7_setConditionAndProgramMask D cI cB a_ps v_word x0) 0 0 := by
  refine met_std (by decide) rfl (Nat.le_of_ble_eq_true rfl) ?_
  intro p e s m below meth c A ls H hx hb hr hml hown hts hlocks hA hP hK hD hS hNW hl
  have hl : lv_has ls 2 [(0, .ref a_ps), (1, .int x0)] := hl
  refine lv_aload_n hx hb dX7_setConditionAndProgramMask_0 rfl (lv_at hl 0 rfl) ?_
  refine lv_bipush (v := 39) hx hb dX7_setConditionAndProgramMask_1 (by decide) ?_
  refine lv_bipush (v := 6) hx hb dX7_setConditionAndProgramMask_3 (by decide) ?_
  refine lv_iload_n hx hb dX7_setConditionAndProgramMask_5 rfl (lv_at hl 1 rfl) ?_
  have hPc : va_P D vwCl (wX7_change cI cB a_ps v_word) H := hP.sub [0] rfl
  have hDc : va_D A (wX7_change cI cB a_ps v_word) := hD.sub [0] (by decide) rfl
  have hFc := va_free (wc := (wX7_change cI cB a_ps v_word)) hD hS hA [0] rfl
  refine va_callv (va_runV (As := [.int 39, .int 6, .int x0]) (rest := []) ⟨hx, hb, hml, hown, hts⟩ (kX7_change l D cI cB a_ps H.size v_word 39 6 x0) (cwV 3 hts (gd_V wd_12 wd_13 wd_14 wd_15 wd_8) rfl rfl rfl hdX7_change ⟨Nat.le_of_ble_eq_true rfl, Nat.le_of_ble_eq_true rfl⟩) (preV_std (ci := 7) (q0 := 0) hPc hK hDc hNW rfl rfl) rfl rfl hl.1 rfl (lv_room (Nat.le_of_ble_eq_true rfl)) dX7_setConditionAndProgramMask_6 ⟨Nat.zero_le _, Nat.zero_le _⟩) hS (fun q _ h => hFc q h) hFc (fun u_6 t9 H1 locs ht9 hvm9 hw9 hB9 hz9 hk9 hS => ?_)
  have eu_6 : u_6 = fX7_change 39 6 x0 v_word := hw9
  obtain ⟨hP, hD⟩ := back_std (w1 := (wX7_change cI cB a_ps u_6)) (w2 := (wX7_setConditionAndProgramMask cI cB a_ps u_6)) (wr := []) hP hD [0] [] [0] rfl rfl (by decide) (by decide) hk9 hFc hB9 ht9 (by decide) rfl
  clear hB9 hk9 hz9 hvm9 ht9 hFc hPc hDc
  generalize H1 = H at hP hS ⊢
  have hf9 : u_6 = fX7_setConditionAndProgramMask x0 v_word := by simp only [fX7_setConditionAndProgramMask, ← eu_6]
  exact W.vret hx hb hr (fun t9 ht9 hW9 => ⟨⟨u_6, rfl, hf9, ⟨by rw [ht9]; exact hP, va_K.moved hW9.alike hK, hD⟩⟩, hS.F ht9⟩) hS.2.2 dX7_setConditionAndProgramMask_9
theorem hdX7_setConditionAndProgramMask : yX7_setConditionAndProgramMask.cls = RX7 ∧ yX7_setConditionAndProgramMask.cls ≠ "java/lang/invoke/MethodHandle" ∧ yX7_setConditionAndProgramMask.cls ≠ "java/lang/invoke/VarHandle" ∧ (parseMethodDescriptor yX7_setConditionAndProgramMask.desc).map (fun d => d.parameters.length) = some 1 := by decide +kernel
noncomputable def fX7_address (v_word : Int64) : Int32 :=
  ((v_word : Int64).toInt32 &&& 16777215)
abbrev wX7_address (cI cB : ClassId) (a_ps : Nat) (v_word : Int64) : va_W := [(a_ps, .inr (7, [.long v_word]))]
abbrev rmX7_address : Room := { frames := 0, cells := 0, slots := 0, locals := 0 }
abbrev qX7_address (D : va_G) (cI cB : ClassId) (a_ps : Nat) (v_word : Int64) : (Nat → Prop) → Array Value → State → Outcome → State → Prop := fun A9 => va_Qi (fun (r9 : Int32) (u9 : Unit) => r9 = fX7_address v_word) (fun u9 t9 => atW D (TYS cI cB) A9 (wX7_address cI cB a_ps v_word) t9) A9
set_option maxHeartbeats 4000000 in
set_option maxRecDepth 100000 in
theorem kX7_address (l : Launch) (D : va_G) (cI cB : ClassId) (a_ps : Nat) (sz : Nat) (v_word : Int64) : MetW l yX7_address (WK yX7_address cX7_address 1 (some .int)) rmX7_address D (TYS cI cB) (wX7_address cI cB a_ps v_word) sz [.ref a_ps] (qX7_address D cI cB a_ps v_word) 0 0 := by
  refine met_std (by decide) rfl (Nat.le_of_ble_eq_true rfl) ?_
  intro p e s m below meth c A ls H hx hb hr hml hown hts hlocks hA hP hK hD hS hNW hl
  have hl : lv_has ls 1 [(0, .ref a_ps)] := hl
  have q_0 := hts _ (List.mem_cons_of_mem _ wd_9)
  have q_1 := hts _ (List.mem_cons_of_mem _ wd_385)
  refine lv_aload_n hx hb dX7_address_0 rfl (lv_at hl 0 rfl) ?_
  refine va_get (D := D) (ci := 7) (v := .long v_word) (C := RX7) (T := TX7) (N := 1) hx hb hts in_X7 hown hK hP 0 rfl rfl 0 (by decide) q_0 (fun _ h9 => h9) rfl dX7_address_1 ?_
  refine lv_l2i hx hb dX7_address_4 rfl ?_
  refine lv_ldc (v := 16777215) hx hb hown q_1 dX7_address_5 ?_
  refine lv_iand hx hb dX7_address_7 ?_
  have hf9 : ((v_word : Int64).toInt32 &&& 16777215) = fX7_address v_word := by simp only [fX7_address]
  exact W.iret hx hb hr (fun t9 ht9 hW9 => ⟨⟨((v_word : Int64).toInt32 &&& 16777215), (), rfl, hf9, ⟨by rw [ht9]; exact hP, va_K.moved hW9.alike hK, hD⟩⟩, hS.F ht9⟩) hS.2.2 dX7_address_8
theorem hdX7_address : yX7_address.cls = RX7 ∧ yX7_address.cls ≠ "java/lang/invoke/MethodHandle" ∧ yX7_address.cls ≠ "java/lang/invoke/VarHandle" ∧ (parseMethodDescriptor yX7_address.desc).map (fun d => d.parameters.length) = some 0 := by decide +kernel
noncomputable def fX7_setAddress (x0 : Int32) (v_word : Int64) : Int64 :=
  let u_6 := fX7_change 63 24 x0 v_word
  u_6
abbrev wX7_setAddress (cI cB : ClassId) (a_ps : Nat) (v_word : Int64) : va_W := [(a_ps, .inr (7, [.long v_word]))]
abbrev rmX7_setAddress : Room := { frames := 1, cells := 0, slots := 0, locals := 26 }
abbrev qX7_setAddress (D : va_G) (cI cB : ClassId) (a_ps : Nat) (v_word : Int64) (x0 : Int32) : (Nat → Prop) → Array Value → State → Outcome → State → Prop := fun A9 => va_Qv (fun (u9 : Int64) => u9 = fX7_setAddress x0 v_word) (fun u9 t9 => atW D (TYS cI cB) A9 (wX7_setAddress cI cB a_ps u9) t9) A9
set_option maxHeartbeats 4000000 in
set_option maxRecDepth 100000 in
theorem kX7_setAddress (l : Launch) (D : va_G) (cI cB : ClassId) (a_ps : Nat) (sz : Nat) (v_word : Int64) (x0 : Int32) : MetW l yX7_setAddress (WK yX7_setAddress cX7_setAddress 2 none) rmX7_setAddress D (TYS cI cB) (wX7_setAddress cI cB a_ps v_word) sz [.ref a_ps, .int x0] (qX7_setAddress D cI cB a_ps v_word x0) 0 0 := by
  refine met_std (by decide) rfl (Nat.le_of_ble_eq_true rfl) ?_
  intro p e s m below meth c A ls H hx hb hr hml hown hts hlocks hA hP hK hD hS hNW hl
  have hl : lv_has ls 2 [(0, .ref a_ps), (1, .int x0)] := hl
  refine lv_aload_n hx hb dX7_setAddress_0 rfl (lv_at hl 0 rfl) ?_
  refine lv_bipush (v := 63) hx hb dX7_setAddress_1 (by decide) ?_
  refine lv_bipush (v := 24) hx hb dX7_setAddress_3 (by decide) ?_
  refine lv_iload_n hx hb dX7_setAddress_5 rfl (lv_at hl 1 rfl) ?_
  have hPc : va_P D vwCl (wX7_change cI cB a_ps v_word) H := hP.sub [0] rfl
  have hDc : va_D A (wX7_change cI cB a_ps v_word) := hD.sub [0] (by decide) rfl
  have hFc := va_free (wc := (wX7_change cI cB a_ps v_word)) hD hS hA [0] rfl
  refine va_callv (va_runV (As := [.int 63, .int 24, .int x0]) (rest := []) ⟨hx, hb, hml, hown, hts⟩ (kX7_change l D cI cB a_ps H.size v_word 63 24 x0) (cwV 3 hts (gd_V wd_12 wd_13 wd_14 wd_15 wd_8) rfl rfl rfl hdX7_change ⟨Nat.le_of_ble_eq_true rfl, Nat.le_of_ble_eq_true rfl⟩) (preV_std (ci := 7) (q0 := 0) hPc hK hDc hNW rfl rfl) rfl rfl hl.1 rfl (lv_room (Nat.le_of_ble_eq_true rfl)) dX7_setAddress_6 ⟨Nat.zero_le _, Nat.zero_le _⟩) hS (fun q _ h => hFc q h) hFc (fun u_6 t9 H1 locs ht9 hvm9 hw9 hB9 hz9 hk9 hS => ?_)
  have eu_6 : u_6 = fX7_change 63 24 x0 v_word := hw9
  obtain ⟨hP, hD⟩ := back_std (w1 := (wX7_change cI cB a_ps u_6)) (w2 := (wX7_setAddress cI cB a_ps u_6)) (wr := []) hP hD [0] [] [0] rfl rfl (by decide) (by decide) hk9 hFc hB9 ht9 (by decide) rfl
  clear hB9 hk9 hz9 hvm9 ht9 hFc hPc hDc
  generalize H1 = H at hP hS ⊢
  have hf9 : u_6 = fX7_setAddress x0 v_word := by simp only [fX7_setAddress, ← eu_6]
  exact W.vret hx hb hr (fun t9 ht9 hW9 => ⟨⟨u_6, rfl, hf9, ⟨by rw [ht9]; exact hP, va_K.moved hW9.alike hK, hD⟩⟩, hS.F ht9⟩) hS.2.2 dX7_setAddress_9
theorem hdX7_setAddress : yX7_setAddress.cls = RX7 ∧ yX7_setAddress.cls ≠ "java/lang/invoke/MethodHandle" ∧ yX7_setAddress.cls ≠ "java/lang/invoke/VarHandle" ∧ (parseMethodDescriptor yX7_setAddress.desc).map (fun d => d.parameters.length) = some 1 := by decide +kernel
