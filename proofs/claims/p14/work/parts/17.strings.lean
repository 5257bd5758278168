noncomputable def fX9_joined (x0 : Int32) (x1 : Int32) (v_op : Int32) : Int32 :=
  if v_op = 209 then (((x0 &&& 240) ||| (x1 &&& 15))) else (if v_op = 210 then (x1) else (if v_op = 211 then (((x0 &&& 15) ||| (x1 &&& 240))) else (if v_op = 212 then ((x0 &&& x1)) else (if v_op = 214 then ((x0 ||| x1)) else ((x0 ^^^ x1))))))
abbrev wX9_joined (cI cB : ClassId) (a_st a_ins a_mc a_me : Nat) (v_op : Int32) (v_i : Int32) (v_r : Int32) (v_s : Int32) (v_a : Int32) (v_b : Int32) : va_W := [(a_st, .inr (9, [.ref a_mc, .ref a_ins, .ref a_me])), (a_ins, .inr (4, [.ref a_mc, .ref a_me, .int v_op, .int v_i, .int v_r, .int v_s, .int v_a, .int v_b]))]
abbrev rmX9_joined : Room := { frames := 0, cells := 0, slots := 0, locals := 0 }
abbrev qX9_joined (D : va_G) (cI cB : ClassId) (a_st a_ins a_mc a_me : Nat) (v_op : Int32) (v_i : Int32) (v_r : Int32) (v_s : Int32) (v_a : Int32) (v_b : Int32) (x0 : Int32) (x1 : Int32) : (Nat → Prop) → Array Value → State → Outcome → State → Prop := fun A9 => va_Qi (fun (r9 : Int32) (u9 : Unit) => r9 = fX9_joined x0 x1 v_op) (fun u9 t9 => atW D (TYS cI cB) A9 (wX9_joined cI cB a_st a_ins a_mc a_me v_op v_i v_r v_s v_a v_b) t9) A9
set_option maxHeartbeats 4000000 in
set_option maxRecDepth 100000 in
theorem kX9_joined (l : Launch) (D : va_G) (cI cB : ClassId) (a_st a_ins a_mc a_me : Nat) (sz : Nat) (v_op : Int32) (v_i : Int32) (v_r : Int32) (v_s : Int32) (v_a : Int32) (v_b : Int32) (x0 : Int32) (x1 : Int32) : MetW l yX9_joined (WK yX9_joined cX9_joined 3 (some .int)) rmX9_joined D (TYS cI cB) (wX9_joined cI cB a_st a_ins a_mc a_me v_op v_i v_r v_s v_a v_b) sz [.ref a_st, .int x0, .int x1] (qX9_joined D cI cB a_st a_ins a_mc a_me v_op v_i v_r v_s v_a v_b x0 x1) 0 0 := by
  refine met_std (by decide) rfl (Nat.le_of_ble_eq_true rfl) ?_
  intro p e s m below meth c A ls H hx hb hr hml hown hts hlocks hA hP hK hD hS hNW hl
  have hl : lv_has ls 3 [(0, .ref a_st), (1, .int x0), (2, .int x1)] := hl
  have q_0 := hts _ (List.mem_cons_of_mem _ wd_436)
  have n_0 := hNW.f (A := ([.ref a_st, .int x0, .int x1] : List Value).toArray) ("MainframeCore$Strings", 46, "MainframeCore$Instruction", "operation", "I", "MainframeCore") (by decide +kernel)
  refine lv_aload_n hx hb dX9_joined_0 rfl (lv_at hl 0 rfl) ?_
  refine va_get (D := D) (ci := 9) (v := .ref a_ins) (C := RX9) (T := TX9) (N := 3) hx hb hts in_X9 hown hK hP 0 rfl rfl 1 (by decide) q_0 (fun _ h9 => h9) rfl dX9_joined_1 ?_
  refine va_getN (D := D) (ci := 4) (v := .int v_op) (C := RX4) (T := TX4) (N := 8) hx hb hts in_X4 hown hK hP 1 rfl rfl 2 (by decide) n_0 (fun _ h9 => h9) rfl dX9_joined_4 ?_
  by_cases c_7_0 : v_op = 209
  · skip
    refine lv_tableIn (tgt := 44) (off := 37) hx hb dX9_joined_7 (by rw [c_7_0]; decide) (by rw [c_7_0]; decide) (by rw [c_7_0]; rfl) (by decide) ?_
    refine lv_iload_n hx hb dX9_joined_44 rfl (lv_at hl 1 rfl) ?_
    refine lv_sipush (v := 240) hx hb dX9_joined_45 (by decide) ?_
    refine lv_iand hx hb dX9_joined_48 ?_
    refine lv_iload_n hx hb dX9_joined_49 rfl (lv_at hl 2 rfl) ?_
    refine lv_bipush (v := 15) hx hb dX9_joined_50 (by decide) ?_
    refine lv_iand hx hb dX9_joined_52 ?_
    refine lv_ior hx hb dX9_joined_53 ?_
    have hf9 : ((x0 &&& 240) ||| (x1 &&& 15)) = fX9_joined x0 x1 v_op := by simp only [fX9_joined, if_pos c_7_0]
    exact W.iret hx hb hr (fun t9 ht9 hW9 => ⟨⟨((x0 &&& 240) ||| (x1 &&& 15)), (), rfl, hf9, ⟨by rw [ht9]; exact hP, va_K.moved hW9.alike hK, hD⟩⟩, hS.F ht9⟩) hS.2.2 dX9_joined_54
  · skip
    by_cases c_7_1 : v_op = 210
    · skip
      refine lv_tableIn (tgt := 55) (off := 48) hx hb dX9_joined_7 (by rw [c_7_1]; decide) (by rw [c_7_1]; decide) (by rw [c_7_1]; rfl) (by decide) ?_
      refine lv_iload_n hx hb dX9_joined_55 rfl (lv_at hl 2 rfl) ?_
      have hf9 : x1 = fX9_joined x0 x1 v_op := by simp only [fX9_joined, if_neg c_7_0, if_pos c_7_1]
      exact W.iret hx hb hr (fun t9 ht9 hW9 => ⟨⟨x1, (), rfl, hf9, ⟨by rw [ht9]; exact hP, va_K.moved hW9.alike hK, hD⟩⟩, hS.F ht9⟩) hS.2.2 dX9_joined_56
    · skip
      by_cases c_7_2 : v_op = 211
      · skip
        refine lv_tableIn (tgt := 57) (off := 50) hx hb dX9_joined_7 (by rw [c_7_2]; decide) (by rw [c_7_2]; decide) (by rw [c_7_2]; rfl) (by decide) ?_
        refine lv_iload_n hx hb dX9_joined_57 rfl (lv_at hl 1 rfl) ?_
        refine lv_bipush (v := 15) hx hb dX9_joined_58 (by decide) ?_
        refine lv_iand hx hb dX9_joined_60 ?_
        refine lv_iload_n hx hb dX9_joined_61 rfl (lv_at hl 2 rfl) ?_
        refine lv_sipush (v := 240) hx hb dX9_joined_62 (by decide) ?_
        refine lv_iand hx hb dX9_joined_65 ?_
        refine lv_ior hx hb dX9_joined_66 ?_
        have hf9 : ((x0 &&& 15) ||| (x1 &&& 240)) = fX9_joined x0 x1 v_op := by simp only [fX9_joined, if_neg c_7_0, if_neg c_7_1, if_pos c_7_2]
        exact W.iret hx hb hr (fun t9 ht9 hW9 => ⟨⟨((x0 &&& 15) ||| (x1 &&& 240)), (), rfl, hf9, ⟨by rw [ht9]; exact hP, va_K.moved hW9.alike hK, hD⟩⟩, hS.F ht9⟩) hS.2.2 dX9_joined_67
      · skip
        by_cases c_7_3 : v_op = 212
        · skip
          refine lv_tableIn (tgt := 68) (off := 61) hx hb dX9_joined_7 (by rw [c_7_3]; decide) (by rw [c_7_3]; decide) (by rw [c_7_3]; rfl) (by decide) ?_
          refine lv_iload_n hx hb dX9_joined_68 rfl (lv_at hl 1 rfl) ?_
          refine lv_iload_n hx hb dX9_joined_69 rfl (lv_at hl 2 rfl) ?_
          refine lv_iand hx hb dX9_joined_70 ?_
          have hf9 : (x0 &&& x1) = fX9_joined x0 x1 v_op := by simp only [fX9_joined, if_neg c_7_0, if_neg c_7_1, if_neg c_7_2, if_pos c_7_3]
          exact W.iret hx hb hr (fun t9 ht9 hW9 => ⟨⟨(x0 &&& x1), (), rfl, hf9, ⟨by rw [ht9]; exact hP, va_K.moved hW9.alike hK, hD⟩⟩, hS.F ht9⟩) hS.2.2 dX9_joined_71
        · skip
          by_cases c_7_4 : v_op = 214
          · skip
            refine lv_tableIn (tgt := 72) (off := 65) hx hb dX9_joined_7 (by rw [c_7_4]; decide) (by rw [c_7_4]; decide) (by rw [c_7_4]; rfl) (by decide) ?_
            refine lv_iload_n hx hb dX9_joined_72 rfl (lv_at hl 1 rfl) ?_
            refine lv_iload_n hx hb dX9_joined_73 rfl (lv_at hl 2 rfl) ?_
            refine lv_ior hx hb dX9_joined_74 ?_
            have hf9 : (x0 ||| x1) = fX9_joined x0 x1 v_op := by simp only [fX9_joined, if_neg c_7_0, if_neg c_7_1, if_neg c_7_2, if_neg c_7_3, if_pos c_7_4]
            exact W.iret hx hb hr (fun t9 ht9 hW9 => ⟨⟨(x0 ||| x1), (), rfl, hf9, ⟨by rw [ht9]; exact hP, va_K.moved hW9.alike hK, hD⟩⟩, hS.F ht9⟩) hS.2.2 dX9_joined_75
          · skip
            refine sw_def (tgt := 76) hx hb [209, 210, 211, 212, 214] dX9_joined_7 (by decide) (by decide) ?_ (by decide) ?_
            · intro v hv he
              simp only [List.mem_cons, List.not_mem_nil, or_false] at hv
              have hx9 : v_op = Int32.ofInt v := by rw [← he, Int32.ofInt_toInt]
              revert hx9
              rcases hv with rfl | rfl | rfl | rfl | rfl <;> intro hx9 <;> first | exact c_7_0 (by rw [hx9]; decide) | exact c_7_1 (by rw [hx9]; decide) | exact c_7_2 (by rw [hx9]; decide) | exact c_7_3 (by rw [hx9]; decide) | exact c_7_4 (by rw [hx9]; decide)
            · skip
              refine lv_iload_n hx hb dX9_joined_76 rfl (lv_at hl 1 rfl) ?_
              refine lv_iload_n hx hb dX9_joined_77 rfl (lv_at hl 2 rfl) ?_
              refine lv_ixor hx hb dX9_joined_78 ?_
              have hf9 : (x0 ^^^ x1) = fX9_joined x0 x1 v_op := by simp only [fX9_joined, if_neg c_7_0, if_neg c_7_1, if_neg c_7_2, if_neg c_7_3, if_neg c_7_4]
              exact W.iret hx hb hr (fun t9 ht9 hW9 => ⟨⟨(x0 ^^^ x1), (), rfl, hf9, ⟨by rw [ht9]; exact hP, va_K.moved hW9.alike hK, hD⟩⟩, hS.F ht9⟩) hS.2.2 dX9_joined_79
theorem hdX9_joined : yX9_joined.cls = RX9 ∧ yX9_joined.cls ≠ "java/lang/invoke/MethodHandle" ∧ yX9_joined.cls ≠ "java/lang/invoke/VarHandle" ∧ (parseMethodDescriptor yX9_joined.desc).map (fun d => d.parameters.length) = some 2 := by decide +kernel
noncomputable def fX9_demandBoth (x0 : Int32) (v_i : Int32) (v_a : Int32) (v_b : Int32) (v_fault : Int32) (v_word : Int64) (v_kF : (Nat → Int32)) : (Int32 × Int32) :=
  let x_9 := (v_i + 1)
  let u_23 := fX5_demand v_a x_9 x0 v_fault v_word v_kF
  let u_39 := fX5_demand v_b x_9 0 u_23 v_word v_kF
  (x_9, u_39)
abbrev wX9_demandBoth (cI cB : ClassId) (a_st a_ins a_mc a_me a_ps a_by a_ks a_rg : Nat) (v_op : Int32) (v_i : Int32) (v_r : Int32) (v_s : Int32) (v_a : Int32) (v_b : Int32) (v_fault : Int32) (v_word : Int64) (v_kF : (Nat → Int32)) : va_W := [(a_st, .inr (9, [.ref a_mc, .ref a_ins, .ref a_me])), (a_ins, .inr (4, [.ref a_mc, .ref a_me, .int v_op, .int v_i, .int v_r, .int v_s, .int v_a, .int v_b])), (a_mc, .inr (5, [.ref a_me, .ref a_ps, .ref a_rg, .int v_fault])), (a_me, .inr (6, [.ref a_by, .ref a_ks])), (a_ps, .inr (7, [.long v_word])), (a_ks, .inl (cI, 4, .inl v_kF))]
abbrev rmX9_demandBoth : Room := { frames := 2, cells := 0, slots := 0, locals := 49 }
abbrev qX9_demandBoth (D : va_G) (cI cB : ClassId) (a_st a_ins a_mc a_me a_ps a_by a_ks a_rg : Nat) (v_op : Int32) (v_i : Int32) (v_r : Int32) (v_s : Int32) (v_a : Int32) (v_b : Int32) (v_fault : Int32) (v_word : Int64) (v_kF : (Nat → Int32)) (x0 : Int32) : (Nat → Prop) → Array Value → State → Outcome → State → Prop := fun A9 => va_Qi (fun (r9 : Int32) (u9 : Int32) => r9 = (fX9_demandBoth x0 v_i v_a v_b v_fault v_word v_kF).1 ∧ u9 = (fX9_demandBoth x0 v_i v_a v_b v_fault v_word v_kF).2) (fun u9 t9 => atW D (TYS cI cB) A9 (wX9_demandBoth cI cB a_st a_ins a_mc a_me a_ps a_by a_ks a_rg v_op v_i v_r v_s v_a v_b u9 v_word v_kF) t9) A9
set_option maxHeartbeats 4000000 in
set_option maxRecDepth 100000 in
theorem kX9_demandBoth (l : Launch) (D : va_G) (cI cB : ClassId) (a_st a_ins a_mc a_me a_ps a_by a_ks a_rg : Nat) (sz : Nat) (v_op : Int32) (v_i : Int32) (v_r : Int32) (v_s : Int32) (v_a : Int32) (v_b : Int32) (v_fault : Int32) (v_word : Int64) (v_kF : (Nat → Int32)) (x0 : Int32) : MetW l yX9_demandBoth (WK yX9_demandBoth cX9_demandBoth 3 (some .int)) rmX9_demandBoth D (TYS cI cB) (wX9_demandBoth cI cB a_st a_ins a_mc a_me a_ps a_by a_ks a_rg v_op v_i v_r v_s v_a v_b v_fault v_word v_kF) sz [.ref a_st, .int x0] (qX9_demandBoth D cI cB a_st a_ins a_mc a_me a_ps a_by a_ks a_rg v_op v_i v_r v_s v_a v_b v_fault v_word v_kF x0) 0 0 := by
  refine met_std (by decide) rfl (Nat.le_of_ble_eq_true rfl) ?_
  intro p e s m below meth c A ls H hx hb hr hml hown hts hlocks hA hP hK hD hS hNW hl
  have hl : lv_has ls 3 [(0, .ref a_st), (1, .int x0)] := hl
  have q_0 := hts _ (List.mem_cons_of_mem _ wd_436)
  have q_1 := hts _ (List.mem_cons_of_mem _ wd_435)
  have n_0 := hNW.f (A := ([.ref a_st, .int x0] : List Value).toArray) ("MainframeCore$Strings", 49, "MainframeCore$Instruction", "i", "I", "MainframeCore") (by decide +kernel)
  have n_1 := hNW.f (A := ([.ref a_st, .int x0] : List Value).toArray) ("MainframeCore$Strings", 26, "MainframeCore$Instruction", "a", "I", "MainframeCore") (by decide +kernel)
  have n_2 := hNW.f (A := ([.ref a_st, .int x0] : List Value).toArray) ("MainframeCore$Strings", 83, "MainframeCore$Instruction", "b", "I", "MainframeCore") (by decide +kernel)
  refine lv_aload_n hx hb dX9_demandBoth_0 rfl (lv_at hl 0 rfl) ?_
  refine va_get (D := D) (ci := 9) (v := .ref a_ins) (C := RX9) (T := TX9) (N := 3) hx hb hts in_X9 hown hK hP 0 rfl rfl 1 (by decide) q_0 (fun _ h9 => h9) rfl dX9_demandBoth_1 ?_
  refine va_getN (D := D) (ci := 4) (v := .int v_i) (C := RX4) (T := TX4) (N := 8) hx hb hts in_X4 hown hK hP 1 rfl rfl 3 (by decide) n_0 (fun _ h9 => h9) rfl dX9_demandBoth_4 ?_
  refine lv_iconst (v := 1) hx hb dX9_demandBoth_7 (by decide) ?_
  refine lv_iadd hx hb dX9_demandBoth_8 ?_
  refine lv_topi (fun x_9 ex_9 => ?_)
  refine lv_istore_n (lv' := [(2, .int x_9), (0, .ref a_st), (1, .int x0)]) hx hb dX9_demandBoth_9 rfl hl (by decide) rfl (fun ls hl => ?_)
  refine lv_aload_n hx hb dX9_demandBoth_10 rfl (lv_at hl 1 rfl) ?_
  refine va_get (D := D) (ci := 9) (v := .ref a_mc) (C := RX9) (T := TX9) (N := 3) hx hb hts in_X9 hown hK hP 0 rfl rfl 0 (by decide) q_1 (fun _ h9 => h9) rfl dX9_demandBoth_11 ?_
  refine lv_aload_n hx hb dX9_demandBoth_14 rfl (lv_at hl 1 rfl) ?_
  refine va_get (D := D) (ci := 9) (v := .ref a_ins) (C := RX9) (T := TX9) (N := 3) hx hb hts in_X9 hown hK hP 0 rfl rfl 1 (by decide) q_0 (fun _ h9 => h9) rfl dX9_demandBoth_15 ?_
  refine va_getN (D := D) (ci := 4) (v := .int v_a) (C := RX4) (T := TX4) (N := 8) hx hb hts in_X4 hown hK hP 1 rfl rfl 6 (by decide) n_1 (fun _ h9 => h9) rfl dX9_demandBoth_18 ?_
  refine lv_iload_n hx hb dX9_demandBoth_21 rfl (lv_at hl 0 rfl) ?_
  refine lv_iload_n hx hb dX9_demandBoth_22 rfl (lv_at hl 2 rfl) ?_
  have hPc : va_P D vwCl (wX5_demand cI cB a_mc a_me a_ps a_by a_ks a_rg v_fault v_word v_kF) H := hP.sub [2, 3, 4, 5] rfl
  have hDc : va_D A (wX5_demand cI cB a_mc a_me a_ps a_by a_ks a_rg v_fault v_word v_kF) := hD.sub [2, 3, 4, 5] (by decide) rfl
  have hFc := va_free (wc := (wX5_demand cI cB a_mc a_me a_ps a_by a_ks a_rg v_fault v_word v_kF)) hD hS hA [2, 3, 4, 5] rfl
  refine va_callv (va_runV (As := [.int v_a, .int x_9, .int x0]) (rest := []) ⟨hx, hb, hml, hown, hts⟩ (kX5_demand l D cI cB a_mc a_me a_ps a_by a_ks a_rg H.size v_fault v_word v_kF v_a x_9 x0) (cwV 3 hts (gd_V wd_438 wd_106 wd_107 wd_24 wd_93) rfl rfl rfl hdX5_demand ⟨Nat.le_of_ble_eq_true rfl, Nat.le_of_ble_eq_true rfl⟩) (preV_std (ci := 5) (q0 := 0) hPc hK hDc hNW rfl rfl) rfl rfl hl.1 rfl (lv_room (Nat.le_of_ble_eq_true rfl)) dX9_demandBoth_23 ⟨Nat.zero_le _, Nat.zero_le _⟩) hS (fun q _ h => hFc q h) hFc (fun u_23 t9 H1 locs ht9 hvm9 hw9 hB9 hz9 hk9 hS => ?_)
  have eu_23 : u_23 = fX5_demand v_a x_9 x0 v_fault v_word v_kF := hw9
  obtain ⟨hP, hD⟩ := back_std (w1 := (wX5_demand cI cB a_mc a_me a_ps a_by a_ks a_rg u_23 v_word v_kF)) (w2 := (wX9_demandBoth cI cB a_st a_ins a_mc a_me a_ps a_by a_ks a_rg v_op v_i v_r v_s v_a v_b u_23 v_word v_kF)) (wr := [(a_st, .inr (9, [.ref a_mc, .ref a_ins, .ref a_me])), (a_ins, .inr (4, [.ref a_mc, .ref a_me, .int v_op, .int v_i, .int v_r, .int v_s, .int v_a, .int v_b]))]) hP hD [2, 3, 4, 5] [0, 1] [0, 1, 2, 3, 4, 5] rfl rfl (by decide) (by decide) hk9 hFc hB9 ht9 (by decide) rfl
  clear hB9 hk9 hz9 hvm9 ht9 hFc hPc hDc
  generalize H1 = H at hP hS ⊢
  refine lv_aload_n hx hb dX9_demandBoth_26 rfl (lv_at hl 1 rfl) ?_
  refine va_get (D := D) (ci := 9) (v := .ref a_mc) (C := RX9) (T := TX9) (N := 3) hx hb hts in_X9 hown hK hP 0 rfl rfl 0 (by decide) q_1 (fun _ h9 => h9) rfl dX9_demandBoth_27 ?_
  refine lv_aload_n hx hb dX9_demandBoth_30 rfl (lv_at hl 1 rfl) ?_
  refine va_get (D := D) (ci := 9) (v := .ref a_ins) (C := RX9) (T := TX9) (N := 3) hx hb hts in_X9 hown hK hP 0 rfl rfl 1 (by decide) q_0 (fun _ h9 => h9) rfl dX9_demandBoth_31 ?_
  refine va_getN (D := D) (ci := 4) (v := .int v_b) (C := RX4) (T := TX4) (N := 8) hx hb hts in_X4 hown hK hP 1 rfl rfl 7 (by decide) n_2 (fun _ h9 => h9) rfl dX9_demandBoth_34 ?_
  refine lv_iload_n hx hb dX9_demandBoth_37 rfl (lv_at hl 0 rfl) ?_
  refine lv_iconst (v := 0) hx hb dX9_demandBoth_38 (by decide) ?_
  have hPc : va_P D vwCl (wX5_demand cI cB a_mc a_me a_ps a_by a_ks a_rg u_23 v_word v_kF) H := hP.sub [2, 3, 4, 5] rfl
  have hDc : va_D A (wX5_demand cI cB a_mc a_me a_ps a_by a_ks a_rg u_23 v_word v_kF) := hD.sub [2, 3, 4, 5] (by decide) rfl
  have hFc := va_free (wc := (wX5_demand cI cB a_mc a_me a_ps a_by a_ks a_rg u_23 v_word v_kF)) hD hS hA [2, 3, 4, 5] rfl
  refine va_callv (va_runV (As := [.int v_b, .int x_9, .int 0]) (rest := []) ⟨hx, hb, hml, hown, hts⟩ (kX5_demand l D cI cB a_mc a_me a_ps a_by a_ks a_rg H.size u_23 v_word v_kF v_b x_9 0) (cwV 3 hts (gd_V wd_438 wd_106 wd_107 wd_24 wd_93) rfl rfl rfl hdX5_demand ⟨Nat.le_of_ble_eq_true rfl, Nat.le_of_ble_eq_true rfl⟩) (preV_std (ci := 5) (q0 := 0) hPc hK hDc hNW rfl rfl) rfl rfl hl.1 rfl (lv_room (Nat.le_of_ble_eq_true rfl)) dX9_demandBoth_39 ⟨Nat.zero_le _, Nat.zero_le _⟩) hS (fun q _ h => hFc q h) hFc (fun u_39 t9 H1 locs ht9 hvm9 hw9 hB9 hz9 hk9 hS => ?_)
  have eu_39 : u_39 = fX5_demand v_b x_9 0 u_23 v_word v_kF := hw9
  obtain ⟨hP, hD⟩ := back_std (w1 := (wX5_demand cI cB a_mc a_me a_ps a_by a_ks a_rg u_39 v_word v_kF)) (w2 := (wX9_demandBoth cI cB a_st a_ins a_mc a_me a_ps a_by a_ks a_rg v_op v_i v_r v_s v_a v_b u_39 v_word v_kF)) (wr := [(a_st, .inr (9, [.ref a_mc, .ref a_ins, .ref a_me])), (a_ins, .inr (4, [.ref a_mc, .ref a_me, .int v_op, .int v_i, .int v_r, .int v_s, .int v_a, .int v_b]))]) hP hD [2, 3, 4, 5] [0, 1] [0, 1, 2, 3, 4, 5] rfl rfl (by decide) (by decide) hk9 hFc hB9 ht9 (by decide) rfl
  clear hB9 hk9 hz9 hvm9 ht9 hFc hPc hDc
  generalize H1 = H at hP hS ⊢
  refine lv_iload_n hx hb dX9_demandBoth_42 rfl (lv_at hl 0 rfl) ?_
  have hf9 : (x_9, u_39) = fX9_demandBoth x0 v_i v_a v_b v_fault v_word v_kF := by subst ex_9; simp only [fX9_demandBoth, ← eu_23, ← eu_39]
  exact W.iret hx hb hr (fun t9 ht9 hW9 => ⟨⟨x_9, u_39, rfl, ⟨by rw [← hf9], by rw [← hf9]⟩, ⟨by rw [ht9]; exact hP, va_K.moved hW9.alike hK, hD⟩⟩, hS.F ht9⟩) hS.2.2 dX9_demandBoth_43
theorem hdX9_demandBoth : yX9_demandBoth.cls = RX9 ∧ yX9_demandBoth.cls ≠ "java/lang/invoke/MethodHandle" ∧ yX9_demandBoth.cls ≠ "java/lang/invoke/VarHandle" ∧ (parseMethodDescriptor yX9_demandBoth.desc).map (fun d => d.parameters.length) = some 1 := by decide +kernel
noncomputable def fX9_setByBits (x0 : Int32) (v_a : Int32) (v_word : Int64) (v_bF : (Nat → Int32)) : (Int64 × (Nat → Int32)) :=
  let u_12 := fX6_set v_a x0 v_bF
  let u_20 := fX5_conditionByBits x0 v_word
  (u_20, u_12)
abbrev wX9_setByBits (cI cB : ClassId) (a_st a_ins a_mc a_me a_ps a_by a_ks a_rg : Nat) (v_op : Int32) (v_i : Int32) (v_r : Int32) (v_s : Int32) (v_a : Int32) (v_b : Int32) (v_fault : Int32) (v_word : Int64) (v_bF : (Nat → Int32)) : va_W := [(a_st, .inr (9, [.ref a_mc, .ref a_ins, .ref a_me])), (a_ins, .inr (4, [.ref a_mc, .ref a_me, .int v_op, .int v_i, .int v_r, .int v_s, .int v_a, .int v_b])), (a_mc, .inr (5, [.ref a_me, .ref a_ps, .ref a_rg, .int v_fault])), (a_me, .inr (6, [.ref a_by, .ref a_ks])), (a_ps, .inr (7, [.long v_word])), (a_by, .inl (cB, 8192, .inl v_bF))]
abbrev rmX9_setByBits : Room := { frames := 2, cells := 0, slots := 0, locals := 42 }
abbrev qX9_setByBits (D : va_G) (cI cB : ClassId) (a_st a_ins a_mc a_me a_ps a_by a_ks a_rg : Nat) (v_op : Int32) (v_i : Int32) (v_r : Int32) (v_s : Int32) (v_a : Int32) (v_b : Int32) (v_fault : Int32) (v_word : Int64) (v_bF : (Nat → Int32)) (x0 : Int32) : (Nat → Prop) → Array Value → State → Outcome → State → Prop := fun A9 => va_Qv (fun (u9 : (Int64 × (Nat → Int32))) => u9 = fX9_setByBits x0 v_a v_word v_bF) (fun u9 t9 => atW D (TYS cI cB) A9 (wX9_setByBits cI cB a_st a_ins a_mc a_me a_ps a_by a_ks a_rg v_op v_i v_r v_s v_a v_b v_fault u9.1 u9.2) t9) A9
set_option maxHeartbeats 4000000 in
set_option maxRecDepth 100000 in
theorem kX9_setByBits (l : Launch) (D : va_G) (cI cB : ClassId) (a_st a_ins a_mc a_me a_ps a_by a_ks a_rg : Nat) (sz : Nat) (v_op : Int32) (v_i : Int32) (v_r : Int32) (v_s : Int32) (v_a : Int32) (v_b : Int32) (v_fault : Int32) (v_word : Int64) (v_bF : (Nat → Int32)) (x0 : Int32) : MetW l yX9_setByBits (WK yX9_setByBits cX9_setByBits 2 none) rmX9_setByBits D (TYS cI cB) (wX9_setByBits cI cB a_st a_ins a_mc a_me a_ps a_by a_ks a_rg v_op v_i v_r v_s v_a v_b v_fault v_word v_bF) sz [.ref a_st, .int x0] (qX9_setByBits D cI cB a_st a_ins a_mc a_me a_ps a_by a_ks a_rg v_op v_i v_r v_s v_a v_b v_fault v_word v_bF x0) 0 0 := by
  refine met_std (by decide) rfl (Nat.le_of_ble_eq_true rfl) ?_
  intro p e s m below meth c A ls H hx hb hr hml hown hts hlocks hA hP hK hD hS hNW hl
  have hl : lv_has ls 2 [(0, .ref a_st), (1, .int x0)] := hl
  have q_0 := hts _ (List.mem_cons_of_mem _ wd_437)
  have q_1 := hts _ (List.mem_cons_of_mem _ wd_436)
  have q_2 := hts _ (List.mem_cons_of_mem _ wd_435)
  have n_0 := hNW.f (A := ([.ref a_st, .int x0] : List Value).toArray) ("MainframeCore$Strings", 26, "MainframeCore$Instruction", "a", "I", "MainframeCore") (by decide +kernel)
  refine lv_aload_n hx hb dX9_setByBits_0 rfl (lv_at hl 0 rfl) ?_
  refine va_get (D := D) (ci := 9) (v := .ref a_me) (C := RX9) (T := TX9) (N := 3) hx hb hts in_X9 hown hK hP 0 rfl rfl 2 (by decide) q_0 (fun _ h9 => h9) rfl dX9_setByBits_1 ?_
  refine lv_aload_n hx hb dX9_setByBits_4 rfl (lv_at hl 0 rfl) ?_
  refine va_get (D := D) (ci := 9) (v := .ref a_ins) (C := RX9) (T := TX9) (N := 3) hx hb hts in_X9 hown hK hP 0 rfl rfl 1 (by decide) q_1 (fun _ h9 => h9) rfl dX9_setByBits_5 ?_
  refine va_getN (D := D) (ci := 4) (v := .int v_a) (C := RX4) (T := TX4) (N := 8) hx hb hts in_X4 hown hK hP 1 rfl rfl 6 (by decide) n_0 (fun _ h9 => h9) rfl dX9_setByBits_8 ?_
  refine lv_iload_n hx hb dX9_setByBits_11 rfl (lv_at hl 1 rfl) ?_
  have hPc : va_P D vwCl (wX6_set cI cB a_me a_by a_ks v_bF) H := hP.sub [3, 5] rfl
  have hDc : va_D A (wX6_set cI cB a_me a_by a_ks v_bF) := hD.sub [3, 5] (by decide) rfl
  have hFc := va_free (wc := (wX6_set cI cB a_me a_by a_ks v_bF)) hD hS hA [3, 5] rfl
  refine va_callv (va_runV (As := [.int v_a, .int x0]) (rest := []) ⟨hx, hb, hml, hown, hts⟩ (kX6_set l D cI cB a_me a_by a_ks H.size v_bF v_a x0) (cwV 2 hts (gd_V wd_447 wd_151 wd_152 wd_78 wd_145) rfl rfl rfl hdX6_set ⟨Nat.le_of_ble_eq_true rfl, Nat.le_of_ble_eq_true rfl⟩) (preV_std (ci := 6) (q0 := 0) hPc hK hDc hNW rfl rfl) rfl rfl hl.1 rfl (lv_room (Nat.le_of_ble_eq_true rfl)) dX9_setByBits_12 ⟨Nat.zero_le _, Nat.zero_le _⟩) hS (fun q _ h => hFc q h) hFc (fun u_12 t9 H1 locs ht9 hvm9 hw9 hB9 hz9 hk9 hS => ?_)
  have eu_12 : u_12 = fX6_set v_a x0 v_bF := hw9
  obtain ⟨hP, hD⟩ := back_std (w1 := (wX6_set cI cB a_me a_by a_ks u_12)) (w2 := (wX9_setByBits cI cB a_st a_ins a_mc a_me a_ps a_by a_ks a_rg v_op v_i v_r v_s v_a v_b v_fault v_word u_12)) (wr := [(a_st, .inr (9, [.ref a_mc, .ref a_ins, .ref a_me])), (a_ins, .inr (4, [.ref a_mc, .ref a_me, .int v_op, .int v_i, .int v_r, .int v_s, .int v_a, .int v_b])), (a_mc, .inr (5, [.ref a_me, .ref a_ps, .ref a_rg, .int v_fault])), (a_ps, .inr (7, [.long v_word]))]) hP hD [3, 5] [0, 1, 2, 4] [0, 1, 2, 4, 3, 5] rfl rfl (by decide) (by decide) hk9 hFc hB9 ht9 (by decide) rfl
  clear hB9 hk9 hz9 hvm9 ht9 hFc hPc hDc
  generalize H1 = H at hP hS ⊢
  refine lv_aload_n hx hb dX9_setByBits_15 rfl (lv_at hl 0 rfl) ?_
  refine va_get (D := D) (ci := 9) (v := .ref a_mc) (C := RX9) (T := TX9) (N := 3) hx hb hts in_X9 hown hK hP 0 rfl rfl 0 (by decide) q_2 (fun _ h9 => h9) rfl dX9_setByBits_16 ?_
  refine lv_iload_n hx hb dX9_setByBits_19 rfl (lv_at hl 1 rfl) ?_
  have hPc : va_P D vwCl (wX5_conditionByBits cI cB a_mc a_me a_ps a_rg v_fault v_word) H := hP.sub [2, 4] rfl
  have hDc : va_D A (wX5_conditionByBits cI cB a_mc a_me a_ps a_rg v_fault v_word) := hD.sub [2, 4] (by decide) rfl
  have hFc := va_free (wc := (wX5_conditionByBits cI cB a_mc a_me a_ps a_rg v_fault v_word)) hD hS hA [2, 4] rfl
  refine va_callv (va_runV (As := [.int x0]) (rest := []) ⟨hx, hb, hml, hown, hts⟩ (kX5_conditionByBits l D cI cB a_mc a_me a_ps a_rg H.size v_fault v_word x0) (cwV 1 hts (gd_V wd_449 wd_450 wd_451 wd_24 wd_377) rfl rfl rfl hdX5_conditionByBits ⟨Nat.le_of_ble_eq_true rfl, Nat.le_of_ble_eq_true rfl⟩) (preV_std (ci := 5) (q0 := 0) hPc hK hDc hNW rfl rfl) rfl rfl hl.1 rfl (lv_room (Nat.le_of_ble_eq_true rfl)) dX9_setByBits_20 ⟨Nat.zero_le _, Nat.zero_le _⟩) hS (fun q _ h => hFc q h) hFc (fun u_20 t9 H1 locs ht9 hvm9 hw9 hB9 hz9 hk9 hS => ?_)
  have eu_20 : u_20 = fX5_conditionByBits x0 v_word := hw9
  obtain ⟨hP, hD⟩ := back_std (w1 := (wX5_conditionByBits cI cB a_mc a_me a_ps a_rg v_fault u_20)) (w2 := (wX9_setByBits cI cB a_st a_ins a_mc a_me a_ps a_by a_ks a_rg v_op v_i v_r v_s v_a v_b v_fault u_20 u_12)) (wr := [(a_st, .inr (9, [.ref a_mc, .ref a_ins, .ref a_me])), (a_ins, .inr (4, [.ref a_mc, .ref a_me, .int v_op, .int v_i, .int v_r, .int v_s, .int v_a, .int v_b])), (a_me, .inr (6, [.ref a_by, .ref a_ks])), (a_by, .inl (cB, 8192, .inl u_12))]) hP hD [2, 4] [0, 1, 3, 5] [0, 1, 4, 2, 5, 3] rfl rfl (by decide) (by decide) hk9 hFc hB9 ht9 (by decide) rfl
  clear hB9 hk9 hz9 hvm9 ht9 hFc hPc hDc
  generalize H1 = H at hP hS ⊢
  have hf9 : (u_20, u_12) = fX9_setByBits x0 v_a v_word v_bF := by simp only [fX9_setByBits, ← eu_12, ← eu_20]
  exact W.vret hx hb hr (fun t9 ht9 hW9 => ⟨⟨(u_20, u_12), rfl, hf9, ⟨by rw [ht9]; exact hP, va_K.moved hW9.alike hK, hD⟩⟩, hS.F ht9⟩) hS.2.2 dX9_setByBits_23
theorem hdX9_setByBits : yX9_setByBits.cls = RX9 ∧ yX9_setByBits.cls ≠ "java/lang/invoke/MethodHandle" ∧ yX9_setByBits.cls ≠ "java/lang/invoke/VarHandle" ∧ (parseMethodDescriptor yX9_setByBits.desc).map (fun d => d.parameters.length) = some 1 := by decide +kernel
noncomputable def fX9_testAndSet (x0 : Int32) (v_a : Int32) (v_word : Int64) (v_bF : (Nat → Int32)) : (Int64 × (Nat → Int32)) :=
  let u_11 := fX7_setCondition (x0 >>> (7 &&& 31)) v_word
  let u_28 := fX6_set v_a 255 v_bF
  (u_11, u_28)
abbrev wX9_testAndSet (cI cB : ClassId) (a_st a_ins a_mc a_me a_ps a_by a_ks a_rg : Nat) (v_op : Int32) (v_i : Int32) (v_r : Int32) (v_s : Int32) (v_a : Int32) (v_b : Int32) (v_fault : Int32) (v_word : Int64) (v_bF : (Nat → Int32)) : va_W := [(a_st, .inr (9, [.ref a_mc, .ref a_ins, .ref a_me])), (a_ins, .inr (4, [.ref a_mc, .ref a_me, .int v_op, .int v_i, .int v_r, .int v_s, .int v_a, .int v_b])), (a_mc, .inr (5, [.ref a_me, .ref a_ps, .ref a_rg, .int v_fault])), (a_me, .inr (6, [.ref a_by, .ref a_ks])), (a_ps, .inr (7, [.long v_word])), (a_by, .inl (cB, 8192, .inl v_bF))]
abbrev rmX9_testAndSet : Room := { frames := 1, cells := 0, slots := 0, locals := 22 }
abbrev qX9_testAndSet (D : va_G) (cI cB : ClassId) (a_st a_ins a_mc a_me a_ps a_by a_ks a_rg : Nat) (v_op : Int32) (v_i : Int32) (v_r : Int32) (v_s : Int32) (v_a : Int32) (v_b : Int32) (v_fault : Int32) (v_word : Int64) (v_bF : (Nat → Int32)) (x0 : Int32) : (Nat → Prop) → Array Value → State → Outcome → State → Prop := fun A9 => va_Qv (fun (u9 : (Int64 × (Nat → Int32))) => u9 = fX9_testAndSet x0 v_a v_word v_bF) (fun u9 t9 => atW D (TYS cI cB) A9 (wX9_testAndSet cI cB a_st a_ins a_mc a_me a_ps a_by a_ks a_rg v_op v_i v_r v_s v_a v_b v_fault u9.1 u9.2) t9) A9
set_option maxHeartbeats 4000000 in
set_option maxRecDepth 100000 in
theorem kX9_testAndSet (l : Launch) (D : va_G) (cI cB : ClassId) (a_st a_ins a_mc a_me a_ps a_by a_ks a_rg : Nat) (sz : Nat) (v_op : Int32) (v_i : Int32) (v_r : Int32) (v_s : Int32) (v_a : Int32) (v_b : Int32) (v_fault : Int32) (v_word : Int64) (v_bF : (Nat → Int32)) (x0 : Int32) : MetW l yX9_testAndSet (WK yX9_testAndSet cX9_testAndSet 2 none) rmX9_testAndSet D (TYS cI cB) (wX9_testAndSet cI cB a_st a_ins a_mc a_me a_ps a_by a_ks a_rg v_op v_i v_r v_s v_a v_b v_fault v_word v_bF) sz [.ref a_st, .int x0] (qX9_testAndSet D cI cB a_st a_ins a_mc a_me a_ps a_by a_ks a_rg v_op v_i v_r v_s v_a v_b v_fault v_word v_bF x0) 0 0 := by
  refine met_std (by decide) rfl (Nat.le_of_ble_eq_true rfl) ?_
  intro p e s m below meth c A ls H hx hb hr hml hown hts hlocks hA hP hK hD hS hNW hl
  have hl : lv_has ls 2 [(0, .ref a_st), (1, .int x0)] := hl
  have q_0 := hts _ (List.mem_cons_of_mem _ wd_435)
  have q_1 := hts _ (List.mem_cons_of_mem _ wd_437)
  have q_2 := hts _ (List.mem_cons_of_mem _ wd_436)
  have n_0 := hNW.f (A := ([.ref a_st, .int x0] : List Value).toArray) ("MainframeCore$Strings", 56, "MainframeCore$Machine", "psw", "LMainframeCore$Psw;", "MainframeCore") (by decide +kernel)
  have n_1 := hNW.f (A := ([.ref a_st, .int x0] : List Value).toArray) ("MainframeCore$Strings", 26, "MainframeCore$Instruction", "a", "I", "MainframeCore") (by decide +kernel)
  refine lv_aload_n hx hb dX9_testAndSet_0 rfl (lv_at hl 0 rfl) ?_
  refine va_get (D := D) (ci := 9) (v := .ref a_mc) (C := RX9) (T := TX9) (N := 3) hx hb hts in_X9 hown hK hP 0 rfl rfl 0 (by decide) q_0 (fun _ h9 => h9) rfl dX9_testAndSet_1 ?_
  refine va_getN (D := D) (ci := 5) (v := .ref a_ps) (C := RX5) (T := TX5) (N := 4) hx hb hts in_X5 hown hK hP 2 rfl rfl 1 (by decide) n_0 (fun _ h9 => h9) rfl dX9_testAndSet_4 ?_
  refine lv_iload_n hx hb dX9_testAndSet_7 rfl (lv_at hl 1 rfl) ?_
  refine lv_bipush (v := 7) hx hb dX9_testAndSet_8 (by decide) ?_
  refine lv_ishr hx hb dX9_testAndSet_10 ?_
  have hPc : va_P D vwCl (wX7_setCondition cI cB a_ps v_word) H := hP.sub [4] rfl
  have hDc : va_D A (wX7_setCondition cI cB a_ps v_word) := hD.sub [4] (by decide) rfl
  have hFc := va_free (wc := (wX7_setCondition cI cB a_ps v_word)) hD hS hA [4] rfl
  refine va_callv (va_runV (As := [.int ((x0 >>> (7 &&& 31)))]) (rest := []) ⟨hx, hb, hml, hown, hts⟩ (kX7_setCondition l D cI cB a_ps H.size v_word (x0 >>> (7 &&& 31))) (cwV 1 hts (gd_V wd_444 wd_241 wd_242 wd_15 wd_236) rfl rfl rfl hdX7_setCondition ⟨Nat.le_of_ble_eq_true rfl, Nat.le_of_ble_eq_true rfl⟩) (preV_std (ci := 7) (q0 := 0) hPc hK hDc hNW rfl rfl) rfl rfl hl.1 rfl (lv_room (Nat.le_of_ble_eq_true rfl)) dX9_testAndSet_11 ⟨Nat.zero_le _, Nat.zero_le _⟩) hS (fun q _ h => hFc q h) hFc (fun u_11 t9 H1 locs ht9 hvm9 hw9 hB9 hz9 hk9 hS => ?_)
  have eu_11 : u_11 = fX7_setCondition (x0 >>> (7 &&& 31)) v_word := hw9
  obtain ⟨hP, hD⟩ := back_std (w1 := (wX7_setCondition cI cB a_ps u_11)) (w2 := (wX9_testAndSet cI cB a_st a_ins a_mc a_me a_ps a_by a_ks a_rg v_op v_i v_r v_s v_a v_b v_fault u_11 v_bF)) (wr := [(a_st, .inr (9, [.ref a_mc, .ref a_ins, .ref a_me])), (a_ins, .inr (4, [.ref a_mc, .ref a_me, .int v_op, .int v_i, .int v_r, .int v_s, .int v_a, .int v_b])), (a_mc, .inr (5, [.ref a_me, .ref a_ps, .ref a_rg, .int v_fault])), (a_me, .inr (6, [.ref a_by, .ref a_ks])), (a_by, .inl (cB, 8192, .inl v_bF))]) hP hD [4] [0, 1, 2, 3, 5] [0, 1, 2, 3, 5, 4] rfl rfl (by decide) (by decide) hk9 hFc hB9 ht9 (by decide) rfl
  clear hB9 hk9 hz9 hvm9 ht9 hFc hPc hDc
  generalize H1 = H at hP hS ⊢
  refine lv_aload_n hx hb dX9_testAndSet_14 rfl (lv_at hl 0 rfl) ?_
  refine va_get (D := D) (ci := 9) (v := .ref a_me) (C := RX9) (T := TX9) (N := 3) hx hb hts in_X9 hown hK hP 0 rfl rfl 2 (by decide) q_1 (fun _ h9 => h9) rfl dX9_testAndSet_15 ?_
  refine lv_aload_n hx hb dX9_testAndSet_18 rfl (lv_at hl 0 rfl) ?_
  refine va_get (D := D) (ci := 9) (v := .ref a_ins) (C := RX9) (T := TX9) (N := 3) hx hb hts in_X9 hown hK hP 0 rfl rfl 1 (by decide) q_2 (fun _ h9 => h9) rfl dX9_testAndSet_19 ?_
  refine va_getN (D := D) (ci := 4) (v := .int v_a) (C := RX4) (T := TX4) (N := 8) hx hb hts in_X4 hown hK hP 1 rfl rfl 6 (by decide) n_1 (fun _ h9 => h9) rfl dX9_testAndSet_22 ?_
  refine lv_sipush (v := 255) hx hb dX9_testAndSet_25 (by decide) ?_
  have hPc : va_P D vwCl (wX6_set cI cB a_me a_by a_ks v_bF) H := hP.sub [3, 5] rfl
  have hDc : va_D A (wX6_set cI cB a_me a_by a_ks v_bF) := hD.sub [3, 5] (by decide) rfl
  have hFc := va_free (wc := (wX6_set cI cB a_me a_by a_ks v_bF)) hD hS hA [3, 5] rfl
  refine va_callv (va_runV (As := [.int v_a, .int 255]) (rest := []) ⟨hx, hb, hml, hown, hts⟩ (kX6_set l D cI cB a_me a_by a_ks H.size v_bF v_a 255) (cwV 2 hts (gd_V wd_447 wd_151 wd_152 wd_78 wd_145) rfl rfl rfl hdX6_set ⟨Nat.le_of_ble_eq_true rfl, Nat.le_of_ble_eq_true rfl⟩) (preV_std (ci := 6) (q0 := 0) hPc hK hDc hNW rfl rfl) rfl rfl hl.1 rfl (lv_room (Nat.le_of_ble_eq_true rfl)) dX9_testAndSet_28 ⟨Nat.zero_le _, Nat.zero_le _⟩) hS (fun q _ h => hFc q h) hFc (fun u_28 t9 H1 locs ht9 hvm9 hw9 hB9 hz9 hk9 hS => ?_)
  have eu_28 : u_28 = fX6_set v_a 255 v_bF := hw9
  obtain ⟨hP, hD⟩ := back_std (w1 := (wX6_set cI cB a_me a_by a_ks u_28)) (w2 := (wX9_testAndSet cI cB a_st a_ins a_mc a_me a_ps a_by a_ks a_rg v_op v_i v_r v_s v_a v_b v_fault u_11 u_28)) (wr := [(a_st, .inr (9, [.ref a_mc, .ref a_ins, .ref a_me])), (a_ins, .inr (4, [.ref a_mc, .ref a_me, .int v_op, .int v_i, .int v_r, .int v_s, .int v_a, .int v_b])), (a_mc, .inr (5, [.ref a_me, .ref a_ps, .ref a_rg, .int v_fault])), (a_ps, .inr (7, [.long u_11]))]) hP hD [3, 5] [0, 1, 2, 4] [0, 1, 2, 4, 3, 5] rfl rfl (by decide) (by decide) hk9 hFc hB9 ht9 (by decide) rfl
  clear hB9 hk9 hz9 hvm9 ht9 hFc hPc hDc
  generalize H1 = H at hP hS ⊢
  have hf9 : (u_11, u_28) = fX9_testAndSet x0 v_a v_word v_bF := by simp only [fX9_testAndSet, ← eu_11, ← eu_28]
  exact W.vret hx hb hr (fun t9 ht9 hW9 => ⟨⟨(u_11, u_28), rfl, hf9, ⟨by rw [ht9]; exact hP, va_K.moved hW9.alike hK, hD⟩⟩, hS.F ht9⟩) hS.2.2 dX9_testAndSet_31
theorem hdX9_testAndSet : yX9_testAndSet.cls = RX9 ∧ yX9_testAndSet.cls ≠ "java/lang/invoke/MethodHandle" ∧ yX9_testAndSet.cls ≠ "java/lang/invoke/VarHandle" ∧ (parseMethodDescriptor yX9_testAndSet.desc).map (fun d => d.parameters.length) = some 1 := by decide +kernel
noncomputable def fX9_testByte (v_op : Int32) (v_i : Int32) (v_a : Int32) (v_fault : Int32) (v_word : Int64) (v_bF : (Nat → Int32)) (v_kF : (Nat → Int32)) : (Int32 × Int64) :=
  let u_13 := fX5_demand v_a 1 0 v_fault v_word v_kF
  let r_20 := fX5_fine u_13
  if r_20 = 0 then ((u_13, v_word)) else (let r_38 := fX6_get v_a v_bF; if v_op = 149 then (let u_69 := fX5_conditionByComparing ((r_38 : Int32).toInt64) ((v_i : Int32).toInt64) v_word; (u_13, u_69)) else (let x_84 := (r_38 &&& v_i); let m_116 : Int32 := (if x_84 = 0 then (0) else (if x_84 = v_i then (3) else (1))); let u_116 := fX7_setCondition m_116 v_word; (u_13, u_116)))
abbrev wX9_testByte (cI cB : ClassId) (a_st a_ins a_mc a_me a_ps a_by a_ks a_rg : Nat) (v_op : Int32) (v_i : Int32) (v_r : Int32) (v_s : Int32) (v_a : Int32) (v_b : Int32) (v_fault : Int32) (v_word : Int64) (v_bF : (Nat → Int32)) (v_kF : (Nat → Int32)) : va_W := [(a_st, .inr (9, [.ref a_mc, .ref a_ins, .ref a_me])), (a_ins, .inr (4, [.ref a_mc, .ref a_me, .int v_op, .int v_i, .int v_r, .int v_s, .int v_a, .int v_b])), (a_mc, .inr (5, [.ref a_me, .ref a_ps, .ref a_rg, .int v_fault])), (a_me, .inr (6, [.ref a_by, .ref a_ks])), (a_ps, .inr (7, [.long v_word])), (a_by, .inl (cB, 8192, .inl v_bF)), (a_ks, .inl (cI, 4, .inl v_kF))]
abbrev rmX9_testByte : Room := { frames := 2, cells := 0, slots := 0, locals := 49 }
abbrev qX9_testByte (D : va_G) (cI cB : ClassId) (a_st a_ins a_mc a_me a_ps a_by a_ks a_rg : Nat) (v_op : Int32) (v_i : Int32) (v_r : Int32) (v_s : Int32) (v_a : Int32) (v_b : Int32) (v_fault : Int32) (v_word : Int64) (v_bF : (Nat → Int32)) (v_kF : (Nat → Int32)) : (Nat → Prop) → Array Value → State → Outcome → State → Prop := fun A9 => va_Qv (fun (u9 : (Int32 × Int64)) => u9 = fX9_testByte v_op v_i v_a v_fault v_word v_bF v_kF) (fun u9 t9 => atW D (TYS cI cB) A9 (wX9_testByte cI cB a_st a_ins a_mc a_me a_ps a_by a_ks a_rg v_op v_i v_r v_s v_a v_b u9.1 u9.2 v_bF v_kF) t9) A9
set_option maxHeartbeats 4000000 in
set_option maxRecDepth 100000 in
theorem kX9_testByte (l : Launch) (D : va_G) (cI cB : ClassId) (a_st a_ins a_mc a_me a_ps a_by a_ks a_rg : Nat) (sz : Nat) (v_op : Int32) (v_i : Int32) (v_r : Int32) (v_s : Int32) (v_a : Int32) (v_b : Int32) (v_fault : Int32) (v_word : Int64) (v_bF : (Nat → Int32)) (v_kF : (Nat → Int32)) : MetW l yX9_testByte (WK yX9_testByte cX9_testByte 3 none) rmX9_testByte D (TYS cI cB) (wX9_testByte cI cB a_st a_ins a_mc a_me a_ps a_by a_ks a_rg v_op v_i v_r v_s v_a v_b v_fault v_word v_bF v_kF) sz [.ref a_st] (qX9_testByte D cI cB a_st a_ins a_mc a_me a_ps a_by a_ks a_rg v_op v_i v_r v_s v_a v_b v_fault v_word v_bF v_kF) 0 0 := by
  refine met_std (by decide) rfl (Nat.le_of_ble_eq_true rfl) ?_
  intro p e s m below meth c A ls H hx hb hr hml hown hts hlocks hA hP hK hD hS hNW hl
  have hl : lv_has ls 3 [(0, .ref a_st)] := hl
  have q_0 := hts _ (List.mem_cons_of_mem _ wd_435)
  have q_1 := hts _ (List.mem_cons_of_mem _ wd_436)
  have q_2 := hts _ (List.mem_cons_of_mem _ wd_437)
  have n_0 := hNW.f (A := ([.ref a_st] : List Value).toArray) ("MainframeCore$Strings", 26, "MainframeCore$Instruction", "a", "I", "MainframeCore") (by decide +kernel)
  have n_1 := hNW.f (A := ([.ref a_st] : List Value).toArray) ("MainframeCore$Strings", 46, "MainframeCore$Instruction", "operation", "I", "MainframeCore") (by decide +kernel)
  have n_2 := hNW.f (A := ([.ref a_st] : List Value).toArray) ("MainframeCore$Strings", 49, "MainframeCore$Instruction", "i", "I", "MainframeCore") (by decide +kernel)
  have n_3 := hNW.f (A := ([.ref a_st] : List Value).toArray) ("MainframeCore$Strings", 56, "MainframeCore$Machine", "psw", "LMainframeCore$Psw;", "MainframeCore") (by decide +kernel)
  refine lv_aload_n hx hb dX9_testByte_0 rfl (lv_at hl 0 rfl) ?_
  refine va_get (D := D) (ci := 9) (v := .ref a_mc) (C := RX9) (T := TX9) (N := 3) hx hb hts in_X9 hown hK hP 0 rfl rfl 0 (by decide) q_0 (fun _ h9 => h9) rfl dX9_testByte_1 ?_
  refine lv_aload_n hx hb dX9_testByte_4 rfl (lv_at hl 0 rfl) ?_
  refine va_get (D := D) (ci := 9) (v := .ref a_ins) (C := RX9) (T := TX9) (N := 3) hx hb hts in_X9 hown hK hP 0 rfl rfl 1 (by decide) q_1 (fun _ h9 => h9) rfl dX9_testByte_5 ?_
  refine va_getN (D := D) (ci := 4) (v := .int v_a) (C := RX4) (T := TX4) (N := 8) hx hb hts in_X4 hown hK hP 1 rfl rfl 6 (by decide) n_0 (fun _ h9 => h9) rfl dX9_testByte_8 ?_
  refine lv_iconst (v := 1) hx hb dX9_testByte_11 (by decide) ?_
  refine lv_iconst (v := 0) hx hb dX9_testByte_12 (by decide) ?_
  have hPc : va_P D vwCl (wX5_demand cI cB a_mc a_me a_ps a_by a_ks a_rg v_fault v_word v_kF) H := hP.sub [2, 3, 4, 6] rfl
  have hDc : va_D A (wX5_demand cI cB a_mc a_me a_ps a_by a_ks a_rg v_fault v_word v_kF) := hD.sub [2, 3, 4, 6] (by decide) rfl
  have hFc := va_free (wc := (wX5_demand cI cB a_mc a_me a_ps a_by a_ks a_rg v_fault v_word v_kF)) hD hS hA [2, 3, 4, 6] rfl
  refine va_callv (va_runV (As := [.int v_a, .int 1, .int 0]) (rest := []) ⟨hx, hb, hml, hown, hts⟩ (kX5_demand l D cI cB a_mc a_me a_ps a_by a_ks a_rg H.size v_fault v_word v_kF v_a 1 0) (cwV 3 hts (gd_V wd_438 wd_106 wd_107 wd_24 wd_93) rfl rfl rfl hdX5_demand ⟨Nat.le_of_ble_eq_true rfl, Nat.le_of_ble_eq_true rfl⟩) (preV_std (ci := 5) (q0 := 0) hPc hK hDc hNW rfl rfl) rfl rfl hl.1 rfl (lv_room (Nat.le_of_ble_eq_true rfl)) dX9_testByte_13 ⟨Nat.zero_le _, Nat.zero_le _⟩) hS (fun q _ h => hFc q h) hFc (fun u_13 t9 H1 locs ht9 hvm9 hw9 hB9 hz9 hk9 hS => ?_)
  have eu_13 : u_13 = fX5_demand v_a 1 0 v_fault v_word v_kF := hw9
  obtain ⟨hP, hD⟩ := back_std (w1 := (wX5_demand cI cB a_mc a_me a_ps a_by a_ks a_rg u_13 v_word v_kF)) (w2 := (wX9_testByte cI cB a_st a_ins a_mc a_me a_ps a_by a_ks a_rg v_op v_i v_r v_s v_a v_b u_13 v_word v_bF v_kF)) (wr := [(a_st, .inr (9, [.ref a_mc, .ref a_ins, .ref a_me])), (a_ins, .inr (4, [.ref a_mc, .ref a_me, .int v_op, .int v_i, .int v_r, .int v_s, .int v_a, .int v_b])), (a_by, .inl (cB, 8192, .inl v_bF))]) hP hD [2, 3, 4, 6] [0, 1, 5] [0, 1, 3, 4, 5, 2, 6] rfl rfl (by decide) (by decide) hk9 hFc hB9 ht9 (by decide) rfl
  clear hB9 hk9 hz9 hvm9 ht9 hFc hPc hDc
  generalize H1 = H at hP hS ⊢
  refine lv_aload_n hx hb dX9_testByte_16 rfl (lv_at hl 0 rfl) ?_
  refine va_get (D := D) (ci := 9) (v := .ref a_mc) (C := RX9) (T := TX9) (N := 3) hx hb hts in_X9 hown hK hP 0 rfl rfl 0 (by decide) q_0 (fun _ h9 => h9) rfl dX9_testByte_17 ?_
  have hPc : va_P D vwCl (wX5_fine cI cB a_mc a_me a_ps a_rg u_13) H := hP.sub [2] rfl
  have hDc : va_D A (wX5_fine cI cB a_mc a_me a_ps a_rg u_13) := hD.sub [2] (by decide) rfl
  have hFc := va_free (wc := (wX5_fine cI cB a_mc a_me a_ps a_rg u_13)) hD hS hA [2] rfl
  refine va_calli (va_runV (As := []) (rest := []) ⟨hx, hb, hml, hown, hts⟩ (kX5_fine l D cI cB a_mc a_me a_ps a_rg H.size u_13 ) (cwV 0 hts (gd_V wd_439 wd_73 wd_74 wd_24 wd_66) rfl rfl rfl hdX5_fine ⟨Nat.le_of_ble_eq_true rfl, Nat.le_of_ble_eq_true rfl⟩) (preV_std (ci := 5) (q0 := 0) hPc hK hDc hNW rfl rfl) rfl rfl hl.1 rfl (lv_room (Nat.le_of_ble_eq_true rfl)) dX9_testByte_20 ⟨Nat.zero_le _, Nat.zero_le _⟩) hS (fun q _ h => hFc q h) hFc (fun r_20 u_20 t9 H1 locs ht9 hvm9 hw9 hB9 hz9 hk9 hS => ?_)
  have er_20 : r_20 = fX5_fine u_13 := hw9
  have zr_20 : r_20 = 0 ∨ r_20 = 1 := by rw [er_20]; exact zX5_fine _
  obtain ⟨hP, hD⟩ := back_std (w1 := (wX5_fine cI cB a_mc a_me a_ps a_rg u_13)) (w2 := (wX9_testByte cI cB a_st a_ins a_mc a_me a_ps a_by a_ks a_rg v_op v_i v_r v_s v_a v_b u_13 v_word v_bF v_kF)) (wr := [(a_st, .inr (9, [.ref a_mc, .ref a_ins, .ref a_me])), (a_ins, .inr (4, [.ref a_mc, .ref a_me, .int v_op, .int v_i, .int v_r, .int v_s, .int v_a, .int v_b])), (a_me, .inr (6, [.ref a_by, .ref a_ks])), (a_ps, .inr (7, [.long v_word])), (a_by, .inl (cB, 8192, .inl v_bF)), (a_ks, .inl (cI, 4, .inl v_kF))]) hP hD [2] [0, 1, 3, 4, 5, 6] [0, 1, 6, 2, 3, 4, 5] rfl rfl (by decide) (by decide) hk9 hFc hB9 ht9 (by decide) rfl
  clear hB9 hk9 hz9 hvm9 ht9 hFc hPc hDc
  generalize H1 = H at hP hS ⊢
  refine lv_if_ne (tgt := 27) hx hb dX9_testByte_23 (by decide) (fun c_23 => ?_) (fun c_23 => ?_)
  · skip
    refine lv_aload_n hx hb dX9_testByte_27 rfl (lv_at hl 0 rfl) ?_
    refine va_get (D := D) (ci := 9) (v := .ref a_me) (C := RX9) (T := TX9) (N := 3) hx hb hts in_X9 hown hK hP 0 rfl rfl 2 (by decide) q_2 (fun _ h9 => h9) rfl dX9_testByte_28 ?_
    refine lv_aload_n hx hb dX9_testByte_31 rfl (lv_at hl 0 rfl) ?_
    refine va_get (D := D) (ci := 9) (v := .ref a_ins) (C := RX9) (T := TX9) (N := 3) hx hb hts in_X9 hown hK hP 0 rfl rfl 1 (by decide) q_1 (fun _ h9 => h9) rfl dX9_testByte_32 ?_
    refine va_getN (D := D) (ci := 4) (v := .int v_a) (C := RX4) (T := TX4) (N := 8) hx hb hts in_X4 hown hK hP 1 rfl rfl 6 (by decide) n_0 (fun _ h9 => h9) rfl dX9_testByte_35 ?_
    have hPc : va_P D vwCl (wX6_get cI cB a_me a_by a_ks v_bF) H := hP.sub [3, 5] rfl
    have hDc : va_D A (wX6_get cI cB a_me a_by a_ks v_bF) := hD.sub [3, 5] (by decide) rfl
    have hFc := va_free (wc := (wX6_get cI cB a_me a_by a_ks v_bF)) hD hS hA [3, 5] rfl
    refine va_calli (va_runV (As := [.int v_a]) (rest := []) ⟨hx, hb, hml, hown, hts⟩ (kX6_get l D cI cB a_me a_by a_ks H.size v_bF v_a) (cwV 1 hts (gd_V wd_440 wd_109 wd_110 wd_78 wd_102) rfl rfl rfl hdX6_get ⟨Nat.le_of_ble_eq_true rfl, Nat.le_of_ble_eq_true rfl⟩) (preV_std (ci := 6) (q0 := 0) hPc hK hDc hNW rfl rfl) rfl rfl hl.1 rfl (lv_room (Nat.le_of_ble_eq_true rfl)) dX9_testByte_38 ⟨Nat.zero_le _, Nat.zero_le _⟩) hS (fun q _ h => hFc q h) hFc (fun r_38 u_38 t9 H1 locs ht9 hvm9 hw9 hB9 hz9 hk9 hS => ?_)
    have er_38 : r_38 = fX6_get v_a v_bF := hw9
    obtain ⟨hP, hD⟩ := back_std (w1 := (wX6_get cI cB a_me a_by a_ks v_bF)) (w2 := (wX9_testByte cI cB a_st a_ins a_mc a_me a_ps a_by a_ks a_rg v_op v_i v_r v_s v_a v_b u_13 v_word v_bF v_kF)) (wr := [(a_st, .inr (9, [.ref a_mc, .ref a_ins, .ref a_me])), (a_ins, .inr (4, [.ref a_mc, .ref a_me, .int v_op, .int v_i, .int v_r, .int v_s, .int v_a, .int v_b])), (a_mc, .inr (5, [.ref a_me, .ref a_ps, .ref a_rg, .int u_13])), (a_ps, .inr (7, [.long v_word])), (a_ks, .inl (cI, 4, .inl v_kF))]) hP hD [3, 5] [0, 1, 2, 4, 6] [0, 1, 2, 5, 3, 6, 4] rfl rfl (by decide) (by decide) hk9 hFc hB9 ht9 (by decide) rfl
    clear hB9 hk9 hz9 hvm9 ht9 hFc hPc hDc
    generalize H1 = H at hP hS ⊢
    refine lv_istore_n (lv' := [(1, .int r_38), (0, .ref a_st)]) hx hb dX9_testByte_41 rfl hl (by decide) rfl (fun ls hl => ?_)
    refine lv_aload_n hx hb dX9_testByte_42 rfl (lv_at hl 1 rfl) ?_
    refine va_get (D := D) (ci := 9) (v := .ref a_ins) (C := RX9) (T := TX9) (N := 3) hx hb hts in_X9 hown hK hP 0 rfl rfl 1 (by decide) q_1 (fun _ h9 => h9) rfl dX9_testByte_43 ?_
    refine va_getN (D := D) (ci := 4) (v := .int v_op) (C := RX4) (T := TX4) (N := 8) hx hb hts in_X4 hown hK hP 1 rfl rfl 2 (by decide) n_1 (fun _ h9 => h9) rfl dX9_testByte_46 ?_
    refine lv_sipush (v := 149) hx hb dX9_testByte_49 (by decide) ?_
    refine lv_icmp_ne (tgt := 75) hx hb dX9_testByte_52 (by decide) (fun c_52 => ?_) (fun c_52 => ?_)
    · skip
      refine lv_iload_n hx hb dX9_testByte_75 rfl (lv_at hl 0 rfl) ?_
      refine lv_aload_n hx hb dX9_testByte_76 rfl (lv_at hl 1 rfl) ?_
      refine va_get (D := D) (ci := 9) (v := .ref a_ins) (C := RX9) (T := TX9) (N := 3) hx hb hts in_X9 hown hK hP 0 rfl rfl 1 (by decide) q_1 (fun _ h9 => h9) rfl dX9_testByte_77 ?_
      refine va_getN (D := D) (ci := 4) (v := .int v_i) (C := RX4) (T := TX4) (N := 8) hx hb hts in_X4 hown hK hP 1 rfl rfl 3 (by decide) n_2 (fun _ h9 => h9) rfl dX9_testByte_80 ?_
      refine lv_iand hx hb dX9_testByte_83 ?_
      refine lv_topi (fun x_84 ex_84 => ?_)
      refine lv_istore_n (lv' := [(2, .int x_84), (1, .int r_38), (0, .ref a_st)]) hx hb dX9_testByte_84 rfl hl (by decide) rfl (fun ls hl => ?_)
      refine lv_aload_n hx hb dX9_testByte_85 rfl (lv_at hl 2 rfl) ?_
      refine va_get (D := D) (ci := 9) (v := .ref a_mc) (C := RX9) (T := TX9) (N := 3) hx hb hts in_X9 hown hK hP 0 rfl rfl 0 (by decide) q_0 (fun _ h9 => h9) rfl dX9_testByte_86 ?_
      refine va_getN (D := D) (ci := 5) (v := .ref a_ps) (C := RX5) (T := TX5) (N := 4) hx hb hts in_X5 hown hK hP 2 rfl rfl 1 (by decide) n_3 (fun _ h9 => h9) rfl dX9_testByte_89 ?_
      refine lv_iload_n hx hb dX9_testByte_92 rfl (lv_at hl 0 rfl) ?_
      have J_116 : ∀ (m_116 : Int32), m_116 = (if x_84 = 0 then (0) else (if x_84 = v_i then (3) else (1))) → ∀ (H : Heap) (locs : List Loc), va_P D vwCl (wX9_testByte cI cB a_st a_ins a_mc a_me a_ps a_by a_ks a_rg v_op v_i v_r v_s v_a v_b u_13 v_word v_bF v_kF) H → va_D A (wX9_testByte cI cB a_st a_ins a_mc a_me a_ps a_by a_ks a_rg v_op v_i v_r v_s v_a v_b u_13 v_word v_bF v_kF) → va_S A s.heap H locs → ∀ (ls : Array Slot), lv_has ls 3 [(0, .ref a_st), (1, .int r_38), (2, .int x_84)] → W p l e rmX9_testByte s m ([.ref a_st] : List Value).toArray below meth c H locs 0 0 (MQ below (qX9_testByte D cI cB a_st a_ins a_mc a_me a_ps a_by a_ks a_rg v_op v_i v_r v_s v_a v_b v_fault v_word v_bF v_kF A) ([.ref a_st] : List Value).toArray s 0 0 A) (F0 m 116 ls [.int m_116, .ref a_ps]) := by
        intro m_116 em_116 H locs hP hD hS ls hl
        have hPc : va_P D vwCl (wX7_setCondition cI cB a_ps v_word) H := hP.sub [4] rfl
        have hDc : va_D A (wX7_setCondition cI cB a_ps v_word) := hD.sub [4] (by decide) rfl
        have hFc := va_free (wc := (wX7_setCondition cI cB a_ps v_word)) hD hS hA [4] rfl
        refine va_callv (va_runV (As := [.int m_116]) (rest := []) ⟨hx, hb, hml, hown, hts⟩ (kX7_setCondition l D cI cB a_ps H.size v_word m_116) (cwV 1 hts (gd_V wd_444 wd_241 wd_242 wd_15 wd_236) rfl rfl rfl hdX7_setCondition ⟨Nat.le_of_ble_eq_true rfl, Nat.le_of_ble_eq_true rfl⟩) (preV_std (ci := 7) (q0 := 0) hPc hK hDc hNW rfl rfl) rfl rfl hl.1 rfl (lv_room (Nat.le_of_ble_eq_true rfl)) dX9_testByte_116 ⟨Nat.zero_le _, Nat.zero_le _⟩) hS (fun q _ h => hFc q h) hFc (fun u_116 t9 H1 locs ht9 hvm9 hw9 hB9 hz9 hk9 hS => ?_)
        have eu_116 : u_116 = fX7_setCondition m_116 v_word := hw9
        obtain ⟨hP, hD⟩ := back_std (w1 := (wX7_setCondition cI cB a_ps u_116)) (w2 := (wX9_testByte cI cB a_st a_ins a_mc a_me a_ps a_by a_ks a_rg v_op v_i v_r v_s v_a v_b u_13 u_116 v_bF v_kF)) (wr := [(a_st, .inr (9, [.ref a_mc, .ref a_ins, .ref a_me])), (a_ins, .inr (4, [.ref a_mc, .ref a_me, .int v_op, .int v_i, .int v_r, .int v_s, .int v_a, .int v_b])), (a_mc, .inr (5, [.ref a_me, .ref a_ps, .ref a_rg, .int u_13])), (a_me, .inr (6, [.ref a_by, .ref a_ks])), (a_by, .inl (cB, 8192, .inl v_bF)), (a_ks, .inl (cI, 4, .inl v_kF))]) hP hD [4] [0, 1, 2, 3, 5, 6] [0, 1, 2, 3, 6, 4, 5] rfl rfl (by decide) (by decide) hk9 hFc hB9 ht9 (by decide) rfl
        clear hB9 hk9 hz9 hvm9 ht9 hFc hPc hDc
        generalize H1 = H at hP hS ⊢
        have hf9 : (u_13, u_116) = fX9_testByte v_op v_i v_a v_fault v_word v_bF v_kF := by subst em_116; subst ex_84; simp only [fX9_testByte, ← eu_13, ← er_20, ← er_38, ← eu_116, if_neg c_23, if_neg c_52]
        exact W.vret hx hb hr (fun t9 ht9 hW9 => ⟨⟨(u_13, u_116), rfl, hf9, ⟨by rw [ht9]; exact hP, va_K.moved hW9.alike hK, hD⟩⟩, hS.F ht9⟩) hS.2.2 dX9_testByte_119
      refine lv_if_ne (tgt := 100) hx hb dX9_testByte_93 (by decide) (fun c_93 => ?_) (fun c_93 => ?_)
      · skip
        refine lv_iload_n hx hb dX9_testByte_100 rfl (lv_at hl 0 rfl) ?_
        refine lv_aload_n hx hb dX9_testByte_101 rfl (lv_at hl 2 rfl) ?_
        refine va_get (D := D) (ci := 9) (v := .ref a_ins) (C := RX9) (T := TX9) (N := 3) hx hb hts in_X9 hown hK hP 0 rfl rfl 1 (by decide) q_1 (fun _ h9 => h9) rfl dX9_testByte_102 ?_
        refine va_getN (D := D) (ci := 4) (v := .int v_i) (C := RX4) (T := TX4) (N := 8) hx hb hts in_X4 hown hK hP 1 rfl rfl 3 (by decide) n_2 (fun _ h9 => h9) rfl dX9_testByte_105 ?_
        refine lv_icmp_ne (tgt := 115) hx hb dX9_testByte_108 (by decide) (fun c_108 => ?_) (fun c_108 => ?_)
        · skip
          refine lv_iconst (v := 1) hx hb dX9_testByte_115 (by decide) ?_
          exact J_116 1 (by simp only [if_neg c_93, if_neg c_108]) _ _ hP hD hS ls (lv_sub hl [2, 1, 0] rfl)
        · skip
          refine lv_iconst (v := 3) hx hb dX9_testByte_111 (by decide) ?_
          refine lv_goto (tgt := 116) hx hb dX9_testByte_112 (by decide) ?_
          exact J_116 3 (by simp only [if_neg c_93, if_pos c_108]) _ _ hP hD hS ls (lv_sub hl [2, 1, 0] rfl)
      · skip
        refine lv_iconst (v := 0) hx hb dX9_testByte_96 (by decide) ?_
        refine lv_goto (tgt := 116) hx hb dX9_testByte_97 (by decide) ?_
        exact J_116 0 (by simp only [if_pos c_93]) _ _ hP hD hS ls (lv_sub hl [2, 1, 0] rfl)
    · skip
      refine lv_aload_n hx hb dX9_testByte_55 rfl (lv_at hl 1 rfl) ?_
      refine va_get (D := D) (ci := 9) (v := .ref a_mc) (C := RX9) (T := TX9) (N := 3) hx hb hts in_X9 hown hK hP 0 rfl rfl 0 (by decide) q_0 (fun _ h9 => h9) rfl dX9_testByte_56 ?_
      refine lv_iload_n hx hb dX9_testByte_59 rfl (lv_at hl 0 rfl) ?_
      refine lv_i2l hx hb dX9_testByte_60 rfl ?_
      refine lv_aload_n hx hb dX9_testByte_61 rfl (lv_at hl 1 rfl) ?_
      refine va_get (D := D) (ci := 9) (v := .ref a_ins) (C := RX9) (T := TX9) (N := 3) hx hb hts in_X9 hown hK hP 0 rfl rfl 1 (by decide) q_1 (fun _ h9 => h9) rfl dX9_testByte_62 ?_
      refine va_getN (D := D) (ci := 4) (v := .int v_i) (C := RX4) (T := TX4) (N := 8) hx hb hts in_X4 hown hK hP 1 rfl rfl 3 (by decide) n_2 (fun _ h9 => h9) rfl dX9_testByte_65 ?_
      refine lv_i2l hx hb dX9_testByte_68 rfl ?_
      have hPc : va_P D vwCl (wX5_conditionByComparing cI cB a_mc a_me a_ps a_rg u_13 v_word) H := hP.sub [2, 4] rfl
      have hDc : va_D A (wX5_conditionByComparing cI cB a_mc a_me a_ps a_rg u_13 v_word) := hD.sub [2, 4] (by decide) rfl
      have hFc := va_free (wc := (wX5_conditionByComparing cI cB a_mc a_me a_ps a_rg u_13 v_word)) hD hS hA [2, 4] rfl
      refine va_callv (va_runV (As := [.long (r_38 : Int32).toInt64, .long (v_i : Int32).toInt64]) (rest := []) ⟨hx, hb, hml, hown, hts⟩ (kX5_conditionByComparing l D cI cB a_mc a_me a_ps a_rg H.size u_13 v_word ((r_38 : Int32).toInt64) ((v_i : Int32).toInt64)) (cwV 2 hts (gd_V wd_441 wd_442 wd_443 wd_24 wd_376) rfl rfl rfl hdX5_conditionByComparing ⟨Nat.le_of_ble_eq_true rfl, Nat.le_of_ble_eq_true rfl⟩) (preV_std (ci := 5) (q0 := 0) hPc hK hDc hNW rfl rfl) rfl rfl hl.1 rfl (lv_room (Nat.le_of_ble_eq_true rfl)) dX9_testByte_69 ⟨Nat.zero_le _, Nat.zero_le _⟩) hS (fun q _ h => hFc q h) hFc (fun u_69 t9 H1 locs ht9 hvm9 hw9 hB9 hz9 hk9 hS => ?_)
      have eu_69 : u_69 = fX5_conditionByComparing ((r_38 : Int32).toInt64) ((v_i : Int32).toInt64) v_word := hw9
      obtain ⟨hP, hD⟩ := back_std (w1 := (wX5_conditionByComparing cI cB a_mc a_me a_ps a_rg u_13 u_69)) (w2 := (wX9_testByte cI cB a_st a_ins a_mc a_me a_ps a_by a_ks a_rg v_op v_i v_r v_s v_a v_b u_13 u_69 v_bF v_kF)) (wr := [(a_st, .inr (9, [.ref a_mc, .ref a_ins, .ref a_me])), (a_ins, .inr (4, [.ref a_mc, .ref a_me, .int v_op, .int v_i, .int v_r, .int v_s, .int v_a, .int v_b])), (a_me, .inr (6, [.ref a_by, .ref a_ks])), (a_by, .inl (cB, 8192, .inl v_bF)), (a_ks, .inl (cI, 4, .inl v_kF))]) hP hD [2, 4] [0, 1, 3, 5, 6] [0, 1, 5, 2, 6, 3, 4] rfl rfl (by decide) (by decide) hk9 hFc hB9 ht9 (by decide) rfl
      clear hB9 hk9 hz9 hvm9 ht9 hFc hPc hDc
      generalize H1 = H at hP hS ⊢
      refine lv_goto (tgt := 119) hx hb dX9_testByte_72 (by decide) ?_
      have hf9 : (u_13, u_69) = fX9_testByte v_op v_i v_a v_fault v_word v_bF v_kF := by simp only [fX9_testByte, ← eu_13, ← er_20, ← er_38, ← eu_69, if_neg c_23, if_pos c_52]
      exact W.vret hx hb hr (fun t9 ht9 hW9 => ⟨⟨(u_13, u_69), rfl, hf9, ⟨by rw [ht9]; exact hP, va_K.moved hW9.alike hK, hD⟩⟩, hS.F ht9⟩) hS.2.2 dX9_testByte_119
  · skip
    have hf9 : (u_13, v_word) = fX9_testByte v_op v_i v_a v_fault v_word v_bF v_kF := by simp only [fX9_testByte, ← eu_13, ← er_20, if_pos c_23]
    exact W.vret hx hb hr (fun t9 ht9 hW9 => ⟨⟨(u_13, v_word), rfl, hf9, ⟨by rw [ht9]; exact hP, va_K.moved hW9.alike hK, hD⟩⟩, hS.F ht9⟩) hS.2.2 dX9_testByte_26
theorem hdX9_testByte : yX9_testByte.cls = RX9 ∧ yX9_testByte.cls ≠ "java/lang/invoke/MethodHandle" ∧ yX9_testByte.cls ≠ "java/lang/invoke/VarHandle" ∧ (parseMethodDescriptor yX9_testByte.desc).map (fun d => d.parameters.length) = some 0 := by decide +kernel
noncomputable def fX9_changeByte (v_op : Int32) (v_i : Int32) (v_a : Int32) (v_fault : Int32) (v_word : Int64) (v_bF : (Nat → Int32)) (v_kF : (Nat → Int32)) : (Int32 × Int64 × (Nat → Int32)) :=
  let u_13 := fX5_demand v_a 1 1 v_fault v_word v_kF
  let r_20 := fX5_fine u_13
  if r_20 = 0 then ((u_13, v_word, v_bF)) else (let r_38 := fX6_get v_a v_bF; if v_op = 146 then (let u_102 := fX6_set v_a v_i v_bF; (u_13, v_word, u_102)) else (if v_op = 147 then (let u_110 := fX9_testAndSet r_38 v_a v_word v_bF; (u_13, u_110.1, u_110.2)) else (if v_op = 148 then (let u_126 := fX9_setByBits (r_38 &&& v_i) v_a v_word v_bF; (u_13, u_126.1, u_126.2)) else (if v_op = 150 then (let u_142 := fX9_setByBits (r_38 ||| v_i) v_a v_word v_bF; (u_13, u_142.1, u_142.2)) else (let u_158 := fX9_setByBits (r_38 ^^^ v_i) v_a v_word v_bF; (u_13, u_158.1, u_158.2))))))
abbrev wX9_changeByte (cI cB : ClassId) (a_st a_ins a_mc a_me a_ps a_by a_ks a_rg : Nat) (v_op : Int32) (v_i : Int32) (v_r : Int32) (v_s : Int32) (v_a : Int32) (v_b : Int32) (v_fault : Int32) (v_word : Int64) (v_bF : (Nat → Int32)) (v_kF : (Nat → Int32)) : va_W := [(a_st, .inr (9, [.ref a_mc, .ref a_ins, .ref a_me])), (a_ins, .inr (4, [.ref a_mc, .ref a_me, .int v_op, .int v_i, .int v_r, .int v_s, .int v_a, .int v_b])), (a_mc, .inr (5, [.ref a_me, .ref a_ps, .ref a_rg, .int v_fault])), (a_me, .inr (6, [.ref a_by, .ref a_ks])), (a_ps, .inr (7, [.long v_word])), (a_by, .inl (cB, 8192, .inl v_bF)), (a_ks, .inl (cI, 4, .inl v_kF))]
abbrev rmX9_changeByte : Room := { frames := 3, cells := 0, slots := 0, locals := 63 }
abbrev qX9_changeByte (D : va_G) (cI cB : ClassId) (a_st a_ins a_mc a_me a_ps a_by a_ks a_rg : Nat) (v_op : Int32) (v_i : Int32) (v_r : Int32) (v_s : Int32) (v_a : Int32) (v_b : Int32) (v_fault : Int32) (v_word : Int64) (v_bF : (Nat → Int32)) (v_kF : (Nat → Int32)) : (Nat → Prop) → Array Value → State → Outcome → State → Prop := fun A9 => va_Qv (fun (u9 : (Int32 × Int64 × (Nat → Int32))) => u9 = fX9_changeByte v_op v_i v_a v_fault v_word v_bF v_kF) (fun u9 t9 => atW D (TYS cI cB) A9 (wX9_changeByte cI cB a_st a_ins a_mc a_me a_ps a_by a_ks a_rg v_op v_i v_r v_s v_a v_b u9.1 u9.2.1 u9.2.2 v_kF) t9) A9
set_option maxHeartbeats 4000000 in
set_option maxRecDepth 100000 in
theorem kX9_changeByte (l : Launch) (D : va_G) (cI cB : ClassId) (a_st a_ins a_mc a_me a_ps a_by a_ks a_rg : Nat) (sz : Nat) (v_op : Int32) (v_i : Int32) (v_r : Int32) (v_s : Int32) (v_a : Int32) (v_b : Int32) (v_fault : Int32) (v_word : Int64) (v_bF : (Nat → Int32)) (v_kF : (Nat → Int32)) : MetW l yX9_changeByte (WK yX9_changeByte cX9_changeByte 2 none) rmX9_changeByte D (TYS cI cB) (wX9_changeByte cI cB a_st a_ins a_mc a_me a_ps a_by a_ks a_rg v_op v_i v_r v_s v_a v_b v_fault v_word v_bF v_kF) sz [.ref a_st] (qX9_changeByte D cI cB a_st a_ins a_mc a_me a_ps a_by a_ks a_rg v_op v_i v_r v_s v_a v_b v_fault v_word v_bF v_kF) 0 0 := by
  refine met_std (by decide) rfl (Nat.le_of_ble_eq_true rfl) ?_
  intro p e s m below meth c A ls H hx hb hr hml hown hts hlocks hA hP hK hD hS hNW hl
  have hl : lv_has ls 2 [(0, .ref a_st)] := hl
  have q_0 := hts _ (List.mem_cons_of_mem _ wd_435)
  have q_1 := hts _ (List.mem_cons_of_mem _ wd_436)
  have q_2 := hts _ (List.mem_cons_of_mem _ wd_437)
  have n_0 := hNW.f (A := ([.ref a_st] : List Value).toArray) ("MainframeCore$Strings", 26, "MainframeCore$Instruction", "a", "I", "MainframeCore") (by decide +kernel)
  have n_1 := hNW.f (A := ([.ref a_st] : List Value).toArray) ("MainframeCore$Strings", 46, "MainframeCore$Instruction", "operation", "I", "MainframeCore") (by decide +kernel)
  have n_2 := hNW.f (A := ([.ref a_st] : List Value).toArray) ("MainframeCore$Strings", 49, "MainframeCore$Instruction", "i", "I", "MainframeCore") (by decide +kernel)
  refine lv_aload_n hx hb dX9_changeByte_0 rfl (lv_at hl 0 rfl) ?_
  refine va_get (D := D) (ci := 9) (v := .ref a_mc) (C := RX9) (T := TX9) (N := 3) hx hb hts in_X9 hown hK hP 0 rfl rfl 0 (by decide) q_0 (fun _ h9 => h9) rfl dX9_changeByte_1 ?_
  refine lv_aload_n hx hb dX9_changeByte_4 rfl (lv_at hl 0 rfl) ?_
  refine va_get (D := D) (ci := 9) (v := .ref a_ins) (C := RX9) (T := TX9) (N := 3) hx hb hts in_X9 hown hK hP 0 rfl rfl 1 (by decide) q_1 (fun _ h9 => h9) rfl dX9_changeByte_5 ?_
  refine va_getN (D := D) (ci := 4) (v := .int v_a) (C := RX4) (T := TX4) (N := 8) hx hb hts in_X4 hown hK hP 1 rfl rfl 6 (by decide) n_0 (fun _ h9 => h9) rfl dX9_changeByte_8 ?_
  refine lv_iconst (v := 1) hx hb dX9_changeByte_11 (by decide) ?_
  refine lv_iconst (v := 1) hx hb dX9_changeByte_12 (by decide) ?_
  have hPc : va_P D vwCl (wX5_demand cI cB a_mc a_me a_ps a_by a_ks a_rg v_fault v_word v_kF) H := hP.sub [2, 3, 4, 6] rfl
  have hDc : va_D A (wX5_demand cI cB a_mc a_me a_ps a_by a_ks a_rg v_fault v_word v_kF) := hD.sub [2, 3, 4, 6] (by decide) rfl
  have hFc := va_free (wc := (wX5_demand cI cB a_mc a_me a_ps a_by a_ks a_rg v_fault v_word v_kF)) hD hS hA [2, 3, 4, 6] rfl
  refine va_callv (va_runV (As := [.int v_a, .int 1, .int 1]) (rest := []) ⟨hx, hb, hml, hown, hts⟩ (kX5_demand l D cI cB a_mc a_me a_ps a_by a_ks a_rg H.size v_fault v_word v_kF v_a 1 1) (cwV 3 hts (gd_V wd_438 wd_106 wd_107 wd_24 wd_93) rfl rfl rfl hdX5_demand ⟨Nat.le_of_ble_eq_true rfl, Nat.le_of_ble_eq_true rfl⟩) (preV_std (ci := 5) (q0 := 0) hPc hK hDc hNW rfl rfl) rfl rfl hl.1 rfl (lv_room (Nat.le_of_ble_eq_true rfl)) dX9_changeByte_13 ⟨Nat.zero_le _, Nat.zero_le _⟩) hS (fun q _ h => hFc q h) hFc (fun u_13 t9 H1 locs ht9 hvm9 hw9 hB9 hz9 hk9 hS => ?_)
  have eu_13 : u_13 = fX5_demand v_a 1 1 v_fault v_word v_kF := hw9
  obtain ⟨hP, hD⟩ := back_std (w1 := (wX5_demand cI cB a_mc a_me a_ps a_by a_ks a_rg u_13 v_word v_kF)) (w2 := (wX9_changeByte cI cB a_st a_ins a_mc a_me a_ps a_by a_ks a_rg v_op v_i v_r v_s v_a v_b u_13 v_word v_bF v_kF)) (wr := [(a_st, .inr (9, [.ref a_mc, .ref a_ins, .ref a_me])), (a_ins, .inr (4, [.ref a_mc, .ref a_me, .int v_op, .int v_i, .int v_r, .int v_s, .int v_a, .int v_b])), (a_by, .inl (cB, 8192, .inl v_bF))]) hP hD [2, 3, 4, 6] [0, 1, 5] [0, 1, 3, 4, 5, 2, 6] rfl rfl (by decide) (by decide) hk9 hFc hB9 ht9 (by decide) rfl
  clear hB9 hk9 hz9 hvm9 ht9 hFc hPc hDc
  generalize H1 = H at hP hS ⊢
  refine lv_aload_n hx hb dX9_changeByte_16 rfl (lv_at hl 0 rfl) ?_
  refine va_get (D := D) (ci := 9) (v := .ref a_mc) (C := RX9) (T := TX9) (N := 3) hx hb hts in_X9 hown hK hP 0 rfl rfl 0 (by decide) q_0 (fun _ h9 => h9) rfl dX9_changeByte_17 ?_
  have hPc : va_P D vwCl (wX5_fine cI cB a_mc a_me a_ps a_rg u_13) H := hP.sub [2] rfl
  have hDc : va_D A (wX5_fine cI cB a_mc a_me a_ps a_rg u_13) := hD.sub [2] (by decide) rfl
  have hFc := va_free (wc := (wX5_fine cI cB a_mc a_me a_ps a_rg u_13)) hD hS hA [2] rfl
  refine va_calli (va_runV (As := []) (rest := []) ⟨hx, hb, hml, hown, hts⟩ (kX5_fine l D cI cB a_mc a_me a_ps a_rg H.size u_13 ) (cwV 0 hts (gd_V wd_439 wd_73 wd_74 wd_24 wd_66) rfl rfl rfl hdX5_fine ⟨Nat.le_of_ble_eq_true rfl, Nat.le_of_ble_eq_true rfl⟩) (preV_std (ci := 5) (q0 := 0) hPc hK hDc hNW rfl rfl) rfl rfl hl.1 rfl (lv_room (Nat.le_of_ble_eq_true rfl)) dX9_changeByte_20 ⟨Nat.zero_le _, Nat.zero_le _⟩) hS (fun q _ h => hFc q h) hFc (fun r_20 u_20 t9 H1 locs ht9 hvm9 hw9 hB9 hz9 hk9 hS => ?_)
  have er_20 : r_20 = fX5_fine u_13 := hw9
  have zr_20 : r_20 = 0 ∨ r_20 = 1 := by rw [er_20]; exact zX5_fine _
  obtain ⟨hP, hD⟩ := back_std (w1 := (wX5_fine cI cB a_mc a_me a_ps a_rg u_13)) (w2 := (wX9_changeByte cI cB a_st a_ins a_mc a_me a_ps a_by a_ks a_rg v_op v_i v_r v_s v_a v_b u_13 v_word v_bF v_kF)) (wr := [(a_st, .inr (9, [.ref a_mc, .ref a_ins, .ref a_me])), (a_ins, .inr (4, [.ref a_mc, .ref a_me, .int v_op, .int v_i, .int v_r, .int v_s, .int v_a, .int v_b])), (a_me, .inr (6, [.ref a_by, .ref a_ks])), (a_ps, .inr (7, [.long v_word])), (a_by, .inl (cB, 8192, .inl v_bF)), (a_ks, .inl (cI, 4, .inl v_kF))]) hP hD [2] [0, 1, 3, 4, 5, 6] [0, 1, 6, 2, 3, 4, 5] rfl rfl (by decide) (by decide) hk9 hFc hB9 ht9 (by decide) rfl
  clear hB9 hk9 hz9 hvm9 ht9 hFc hPc hDc
  generalize H1 = H at hP hS ⊢
  refine lv_if_ne (tgt := 27) hx hb dX9_changeByte_23 (by decide) (fun c_23 => ?_) (fun c_23 => ?_)
  · skip
    refine lv_aload_n hx hb dX9_changeByte_27 rfl (lv_at hl 0 rfl) ?_
    refine va_get (D := D) (ci := 9) (v := .ref a_me) (C := RX9) (T := TX9) (N := 3) hx hb hts in_X9 hown hK hP 0 rfl rfl 2 (by decide) q_2 (fun _ h9 => h9) rfl dX9_changeByte_28 ?_
    refine lv_aload_n hx hb dX9_changeByte_31 rfl (lv_at hl 0 rfl) ?_
    refine va_get (D := D) (ci := 9) (v := .ref a_ins) (C := RX9) (T := TX9) (N := 3) hx hb hts in_X9 hown hK hP 0 rfl rfl 1 (by decide) q_1 (fun _ h9 => h9) rfl dX9_changeByte_32 ?_
    refine va_getN (D := D) (ci := 4) (v := .int v_a) (C := RX4) (T := TX4) (N := 8) hx hb hts in_X4 hown hK hP 1 rfl rfl 6 (by decide) n_0 (fun _ h9 => h9) rfl dX9_changeByte_35 ?_
    have hPc : va_P D vwCl (wX6_get cI cB a_me a_by a_ks v_bF) H := hP.sub [3, 5] rfl
    have hDc : va_D A (wX6_get cI cB a_me a_by a_ks v_bF) := hD.sub [3, 5] (by decide) rfl
    have hFc := va_free (wc := (wX6_get cI cB a_me a_by a_ks v_bF)) hD hS hA [3, 5] rfl
    refine va_calli (va_runV (As := [.int v_a]) (rest := []) ⟨hx, hb, hml, hown, hts⟩ (kX6_get l D cI cB a_me a_by a_ks H.size v_bF v_a) (cwV 1 hts (gd_V wd_440 wd_109 wd_110 wd_78 wd_102) rfl rfl rfl hdX6_get ⟨Nat.le_of_ble_eq_true rfl, Nat.le_of_ble_eq_true rfl⟩) (preV_std (ci := 6) (q0 := 0) hPc hK hDc hNW rfl rfl) rfl rfl hl.1 rfl (lv_room (Nat.le_of_ble_eq_true rfl)) dX9_changeByte_38 ⟨Nat.zero_le _, Nat.zero_le _⟩) hS (fun q _ h => hFc q h) hFc (fun r_38 u_38 t9 H1 locs ht9 hvm9 hw9 hB9 hz9 hk9 hS => ?_)
    have er_38 : r_38 = fX6_get v_a v_bF := hw9
    obtain ⟨hP, hD⟩ := back_std (w1 := (wX6_get cI cB a_me a_by a_ks v_bF)) (w2 := (wX9_changeByte cI cB a_st a_ins a_mc a_me a_ps a_by a_ks a_rg v_op v_i v_r v_s v_a v_b u_13 v_word v_bF v_kF)) (wr := [(a_st, .inr (9, [.ref a_mc, .ref a_ins, .ref a_me])), (a_ins, .inr (4, [.ref a_mc, .ref a_me, .int v_op, .int v_i, .int v_r, .int v_s, .int v_a, .int v_b])), (a_mc, .inr (5, [.ref a_me, .ref a_ps, .ref a_rg, .int u_13])), (a_ps, .inr (7, [.long v_word])), (a_ks, .inl (cI, 4, .inl v_kF))]) hP hD [3, 5] [0, 1, 2, 4, 6] [0, 1, 2, 5, 3, 6, 4] rfl rfl (by decide) (by decide) hk9 hFc hB9 ht9 (by decide) rfl
    clear hB9 hk9 hz9 hvm9 ht9 hFc hPc hDc
    generalize H1 = H at hP hS ⊢
    refine lv_istore_n (lv' := [(1, .int r_38), (0, .ref a_st)]) hx hb dX9_changeByte_41 rfl hl (by decide) rfl (fun ls hl => ?_)
    refine lv_aload_n hx hb dX9_changeByte_42 rfl (lv_at hl 1 rfl) ?_
    refine va_get (D := D) (ci := 9) (v := .ref a_ins) (C := RX9) (T := TX9) (N := 3) hx hb hts in_X9 hown hK hP 0 rfl rfl 1 (by decide) q_1 (fun _ h9 => h9) rfl dX9_changeByte_43 ?_
    refine va_getN (D := D) (ci := 4) (v := .int v_op) (C := RX4) (T := TX4) (N := 8) hx hb hts in_X4 hown hK hP 1 rfl rfl 2 (by decide) n_1 (fun _ h9 => h9) rfl dX9_changeByte_46 ?_
    by_cases c_49_0 : v_op = 146
    · skip
      refine lv_tableIn (tgt := 84) (off := 35) hx hb dX9_changeByte_49 (by rw [c_49_0]; decide) (by rw [c_49_0]; decide) (by rw [c_49_0]; rfl) (by decide) ?_
      refine lv_aload_n hx hb dX9_changeByte_84 rfl (lv_at hl 1 rfl) ?_
      refine va_get (D := D) (ci := 9) (v := .ref a_me) (C := RX9) (T := TX9) (N := 3) hx hb hts in_X9 hown hK hP 0 rfl rfl 2 (by decide) q_2 (fun _ h9 => h9) rfl dX9_changeByte_85 ?_
      refine lv_aload_n hx hb dX9_changeByte_88 rfl (lv_at hl 1 rfl) ?_
      refine va_get (D := D) (ci := 9) (v := .ref a_ins) (C := RX9) (T := TX9) (N := 3) hx hb hts in_X9 hown hK hP 0 rfl rfl 1 (by decide) q_1 (fun _ h9 => h9) rfl dX9_changeByte_89 ?_
      refine va_getN (D := D) (ci := 4) (v := .int v_a) (C := RX4) (T := TX4) (N := 8) hx hb hts in_X4 hown hK hP 1 rfl rfl 6 (by decide) n_0 (fun _ h9 => h9) rfl dX9_changeByte_92 ?_
      refine lv_aload_n hx hb dX9_changeByte_95 rfl (lv_at hl 1 rfl) ?_
      refine va_get (D := D) (ci := 9) (v := .ref a_ins) (C := RX9) (T := TX9) (N := 3) hx hb hts in_X9 hown hK hP 0 rfl rfl 1 (by decide) q_1 (fun _ h9 => h9) rfl dX9_changeByte_96 ?_
      refine va_getN (D := D) (ci := 4) (v := .int v_i) (C := RX4) (T := TX4) (N := 8) hx hb hts in_X4 hown hK hP 1 rfl rfl 3 (by decide) n_2 (fun _ h9 => h9) rfl dX9_changeByte_99 ?_
      have hPc : va_P D vwCl (wX6_set cI cB a_me a_by a_ks v_bF) H := hP.sub [3, 5] rfl
      have hDc : va_D A (wX6_set cI cB a_me a_by a_ks v_bF) := hD.sub [3, 5] (by decide) rfl
      have hFc := va_free (wc := (wX6_set cI cB a_me a_by a_ks v_bF)) hD hS hA [3, 5] rfl
      refine va_callv (va_runV (As := [.int v_a, .int v_i]) (rest := []) ⟨hx, hb, hml, hown, hts⟩ (kX6_set l D cI cB a_me a_by a_ks H.size v_bF v_a v_i) (cwV 2 hts (gd_V wd_447 wd_151 wd_152 wd_78 wd_145) rfl rfl rfl hdX6_set ⟨Nat.le_of_ble_eq_true rfl, Nat.le_of_ble_eq_true rfl⟩) (preV_std (ci := 6) (q0 := 0) hPc hK hDc hNW rfl rfl) rfl rfl hl.1 rfl (lv_room (Nat.le_of_ble_eq_true rfl)) dX9_changeByte_102 ⟨Nat.zero_le _, Nat.zero_le _⟩) hS (fun q _ h => hFc q h) hFc (fun u_102 t9 H1 locs ht9 hvm9 hw9 hB9 hz9 hk9 hS => ?_)
      have eu_102 : u_102 = fX6_set v_a v_i v_bF := hw9
      obtain ⟨hP, hD⟩ := back_std (w1 := (wX6_set cI cB a_me a_by a_ks u_102)) (w2 := (wX9_changeByte cI cB a_st a_ins a_mc a_me a_ps a_by a_ks a_rg v_op v_i v_r v_s v_a v_b u_13 v_word u_102 v_kF)) (wr := [(a_st, .inr (9, [.ref a_mc, .ref a_ins, .ref a_me])), (a_ins, .inr (4, [.ref a_mc, .ref a_me, .int v_op, .int v_i, .int v_r, .int v_s, .int v_a, .int v_b])), (a_mc, .inr (5, [.ref a_me, .ref a_ps, .ref a_rg, .int u_13])), (a_ps, .inr (7, [.long v_word])), (a_ks, .inl (cI, 4, .inl v_kF))]) hP hD [3, 5] [0, 1, 2, 4, 6] [0, 1, 2, 5, 3, 6, 4] rfl rfl (by decide) (by decide) hk9 hFc hB9 ht9 (by decide) rfl
      clear hB9 hk9 hz9 hvm9 ht9 hFc hPc hDc
      generalize H1 = H at hP hS ⊢
      refine lv_goto (tgt := 161) hx hb dX9_changeByte_105 (by decide) ?_
      have hf9 : (u_13, v_word, u_102) = fX9_changeByte v_op v_i v_a v_fault v_word v_bF v_kF := by simp only [fX9_changeByte, ← eu_13, ← er_20, ← er_38, ← eu_102, if_neg c_23, if_pos c_49_0]
      exact W.vret hx hb hr (fun t9 ht9 hW9 => ⟨⟨(u_13, v_word, u_102), rfl, hf9, ⟨by rw [ht9]; exact hP, va_K.moved hW9.alike hK, hD⟩⟩, hS.F ht9⟩) hS.2.2 dX9_changeByte_161
    · skip
      by_cases c_49_1 : v_op = 147
      · skip
        refine lv_tableIn (tgt := 108) (off := 59) hx hb dX9_changeByte_49 (by rw [c_49_1]; decide) (by rw [c_49_1]; decide) (by rw [c_49_1]; rfl) (by decide) ?_
        refine lv_aload_n hx hb dX9_changeByte_108 rfl (lv_at hl 1 rfl) ?_
        refine lv_iload_n hx hb dX9_changeByte_109 rfl (lv_at hl 0 rfl) ?_
        have hPc : va_P D vwCl (wX9_testAndSet cI cB a_st a_ins a_mc a_me a_ps a_by a_ks a_rg v_op v_i v_r v_s v_a v_b u_13 v_word v_bF) H := hP.sub [0, 1, 2, 3, 4, 5] rfl
        have hDc : va_D A (wX9_testAndSet cI cB a_st a_ins a_mc a_me a_ps a_by a_ks a_rg v_op v_i v_r v_s v_a v_b u_13 v_word v_bF) := hD.sub [0, 1, 2, 3, 4, 5] (by decide) rfl
        have hFc := va_free (wc := (wX9_testAndSet cI cB a_st a_ins a_mc a_me a_ps a_by a_ks a_rg v_op v_i v_r v_s v_a v_b u_13 v_word v_bF)) hD hS hA [0, 1, 2, 3, 4, 5] rfl
        refine va_callv (va_runV (As := [.int r_38]) (rest := []) ⟨hx, hb, hml, hown, hts⟩ (kX9_testAndSet l D cI cB a_st a_ins a_mc a_me a_ps a_by a_ks a_rg H.size v_op v_i v_r v_s v_a v_b u_13 v_word v_bF r_38) (cwV 1 hts (gd_V wd_452 wd_453 wd_454 wd_455 wd_446) rfl rfl rfl hdX9_testAndSet ⟨Nat.le_of_ble_eq_true rfl, Nat.le_of_ble_eq_true rfl⟩) (preV_std (ci := 9) (q0 := 0) hPc hK hDc hNW rfl rfl) rfl rfl hl.1 rfl (lv_room (Nat.le_of_ble_eq_true rfl)) dX9_changeByte_110 ⟨Nat.zero_le _, Nat.zero_le _⟩) hS (fun q _ h => hFc q h) hFc (fun u_110 t9 H1 locs ht9 hvm9 hw9 hB9 hz9 hk9 hS => ?_)
        have eu_110 : u_110 = fX9_testAndSet r_38 v_a v_word v_bF := hw9
        obtain ⟨hP, hD⟩ := back_std (w1 := (wX9_testAndSet cI cB a_st a_ins a_mc a_me a_ps a_by a_ks a_rg v_op v_i v_r v_s v_a v_b u_13 u_110.1 u_110.2)) (w2 := (wX9_changeByte cI cB a_st a_ins a_mc a_me a_ps a_by a_ks a_rg v_op v_i v_r v_s v_a v_b u_13 u_110.1 u_110.2 v_kF)) (wr := [(a_ks, .inl (cI, 4, .inl v_kF))]) hP hD [0, 1, 2, 3, 4, 5] [6] [1, 2, 3, 4, 5, 6, 0] rfl rfl (by decide) (by decide) hk9 hFc hB9 ht9 (by decide) rfl
        clear hB9 hk9 hz9 hvm9 ht9 hFc hPc hDc
        generalize H1 = H at hP hS ⊢
        refine lv_goto (tgt := 161) hx hb dX9_changeByte_113 (by decide) ?_
        have hf9 : (u_13, u_110.1, u_110.2) = fX9_changeByte v_op v_i v_a v_fault v_word v_bF v_kF := by simp only [fX9_changeByte, ← eu_13, ← er_20, ← er_38, ← eu_110, if_neg c_23, if_neg c_49_0, if_pos c_49_1]
        exact W.vret hx hb hr (fun t9 ht9 hW9 => ⟨⟨(u_13, u_110.1, u_110.2), rfl, hf9, ⟨by rw [ht9]; exact hP, va_K.moved hW9.alike hK, hD⟩⟩, hS.F ht9⟩) hS.2.2 dX9_changeByte_161
      · skip
        by_cases c_49_2 : v_op = 148
        · skip
          refine lv_tableIn (tgt := 116) (off := 67) hx hb dX9_changeByte_49 (by rw [c_49_2]; decide) (by rw [c_49_2]; decide) (by rw [c_49_2]; rfl) (by decide) ?_
          refine lv_aload_n hx hb dX9_changeByte_116 rfl (lv_at hl 1 rfl) ?_
          refine lv_iload_n hx hb dX9_changeByte_117 rfl (lv_at hl 0 rfl) ?_
          refine lv_aload_n hx hb dX9_changeByte_118 rfl (lv_at hl 1 rfl) ?_
          refine va_get (D := D) (ci := 9) (v := .ref a_ins) (C := RX9) (T := TX9) (N := 3) hx hb hts in_X9 hown hK hP 0 rfl rfl 1 (by decide) q_1 (fun _ h9 => h9) rfl dX9_changeByte_119 ?_
          refine va_getN (D := D) (ci := 4) (v := .int v_i) (C := RX4) (T := TX4) (N := 8) hx hb hts in_X4 hown hK hP 1 rfl rfl 3 (by decide) n_2 (fun _ h9 => h9) rfl dX9_changeByte_122 ?_
          refine lv_iand hx hb dX9_changeByte_125 ?_
          have hPc : va_P D vwCl (wX9_setByBits cI cB a_st a_ins a_mc a_me a_ps a_by a_ks a_rg v_op v_i v_r v_s v_a v_b u_13 v_word v_bF) H := hP.sub [0, 1, 2, 3, 4, 5] rfl
          have hDc : va_D A (wX9_setByBits cI cB a_st a_ins a_mc a_me a_ps a_by a_ks a_rg v_op v_i v_r v_s v_a v_b u_13 v_word v_bF) := hD.sub [0, 1, 2, 3, 4, 5] (by decide) rfl
          have hFc := va_free (wc := (wX9_setByBits cI cB a_st a_ins a_mc a_me a_ps a_by a_ks a_rg v_op v_i v_r v_s v_a v_b u_13 v_word v_bF)) hD hS hA [0, 1, 2, 3, 4, 5] rfl
          refine va_callv (va_runV (As := [.int (r_38 &&& v_i)]) (rest := []) ⟨hx, hb, hml, hown, hts⟩ (kX9_setByBits l D cI cB a_st a_ins a_mc a_me a_ps a_by a_ks a_rg H.size v_op v_i v_r v_s v_a v_b u_13 v_word v_bF (r_38 &&& v_i)) (cwV 1 hts (gd_V wd_456 wd_457 wd_458 wd_455 wd_448) rfl rfl rfl hdX9_setByBits ⟨Nat.le_of_ble_eq_true rfl, Nat.le_of_ble_eq_true rfl⟩) (preV_std (ci := 9) (q0 := 0) hPc hK hDc hNW rfl rfl) rfl rfl hl.1 rfl (lv_room (Nat.le_of_ble_eq_true rfl)) dX9_changeByte_126 ⟨Nat.zero_le _, Nat.zero_le _⟩) hS (fun q _ h => hFc q h) hFc (fun u_126 t9 H1 locs ht9 hvm9 hw9 hB9 hz9 hk9 hS => ?_)
          have eu_126 : u_126 = fX9_setByBits (r_38 &&& v_i) v_a v_word v_bF := hw9
          obtain ⟨hP, hD⟩ := back_std (w1 := (wX9_setByBits cI cB a_st a_ins a_mc a_me a_ps a_by a_ks a_rg v_op v_i v_r v_s v_a v_b u_13 u_126.1 u_126.2)) (w2 := (wX9_changeByte cI cB a_st a_ins a_mc a_me a_ps a_by a_ks a_rg v_op v_i v_r v_s v_a v_b u_13 u_126.1 u_126.2 v_kF)) (wr := [(a_ks, .inl (cI, 4, .inl v_kF))]) hP hD [0, 1, 2, 3, 4, 5] [6] [1, 2, 3, 4, 5, 6, 0] rfl rfl (by decide) (by decide) hk9 hFc hB9 ht9 (by decide) rfl
          clear hB9 hk9 hz9 hvm9 ht9 hFc hPc hDc
          generalize H1 = H at hP hS ⊢
          refine lv_goto (tgt := 161) hx hb dX9_changeByte_129 (by decide) ?_
          have hf9 : (u_13, u_126.1, u_126.2) = fX9_changeByte v_op v_i v_a v_fault v_word v_bF v_kF := by simp only [fX9_changeByte, ← eu_13, ← er_20, ← er_38, ← eu_126, if_neg c_23, if_neg c_49_0, if_neg c_49_1, if_pos c_49_2]
          exact W.vret hx hb hr (fun t9 ht9 hW9 => ⟨⟨(u_13, u_126.1, u_126.2), rfl, hf9, ⟨by rw [ht9]; exact hP, va_K.moved hW9.alike hK, hD⟩⟩, hS.F ht9⟩) hS.2.2 dX9_changeByte_161
        · skip
          by_cases c_49_3 : v_op = 150
          · skip
            refine lv_tableIn (tgt := 132) (off := 83) hx hb dX9_changeByte_49 (by rw [c_49_3]; decide) (by rw [c_49_3]; decide) (by rw [c_49_3]; rfl) (by decide) ?_
            refine lv_aload_n hx hb dX9_changeByte_132 rfl (lv_at hl 1 rfl) ?_
            refine lv_iload_n hx hb dX9_changeByte_133 rfl (lv_at hl 0 rfl) ?_
            refine lv_aload_n hx hb dX9_changeByte_134 rfl (lv_at hl 1 rfl) ?_
            refine va_get (D := D) (ci := 9) (v := .ref a_ins) (C := RX9) (T := TX9) (N := 3) hx hb hts in_X9 hown hK hP 0 rfl rfl 1 (by decide) q_1 (fun _ h9 => h9) rfl dX9_changeByte_135 ?_
            refine va_getN (D := D) (ci := 4) (v := .int v_i) (C := RX4) (T := TX4) (N := 8) hx hb hts in_X4 hown hK hP 1 rfl rfl 3 (by decide) n_2 (fun _ h9 => h9) rfl dX9_changeByte_138 ?_
            refine lv_ior hx hb dX9_changeByte_141 ?_
            have hPc : va_P D vwCl (wX9_setByBits cI cB a_st a_ins a_mc a_me a_ps a_by a_ks a_rg v_op v_i v_r v_s v_a v_b u_13 v_word v_bF) H := hP.sub [0, 1, 2, 3, 4, 5] rfl
            have hDc : va_D A (wX9_setByBits cI cB a_st a_ins a_mc a_me a_ps a_by a_ks a_rg v_op v_i v_r v_s v_a v_b u_13 v_word v_bF) := hD.sub [0, 1, 2, 3, 4, 5] (by decide) rfl
            have hFc := va_free (wc := (wX9_setByBits cI cB a_st a_ins a_mc a_me a_ps a_by a_ks a_rg v_op v_i v_r v_s v_a v_b u_13 v_word v_bF)) hD hS hA [0, 1, 2, 3, 4, 5] rfl
            refine va_callv (va_runV (As := [.int (r_38 ||| v_i)]) (rest := []) ⟨hx, hb, hml, hown, hts⟩ (kX9_setByBits l D cI cB a_st a_ins a_mc a_me a_ps a_by a_ks a_rg H.size v_op v_i v_r v_s v_a v_b u_13 v_word v_bF (r_38 ||| v_i)) (cwV 1 hts (gd_V wd_456 wd_457 wd_458 wd_455 wd_448) rfl rfl rfl hdX9_setByBits ⟨Nat.le_of_ble_eq_true rfl, Nat.le_of_ble_eq_true rfl⟩) (preV_std (ci := 9) (q0 := 0) hPc hK hDc hNW rfl rfl) rfl rfl hl.1 rfl (lv_room (Nat.le_of_ble_eq_true rfl)) dX9_changeByte_142 ⟨Nat.zero_le _, Nat.zero_le _⟩) hS (fun q _ h => hFc q h) hFc (fun u_142 t9 H1 locs ht9 hvm9 hw9 hB9 hz9 hk9 hS => ?_)
            have eu_142 : u_142 = fX9_setByBits (r_38 ||| v_i) v_a v_word v_bF := hw9
            obtain ⟨hP, hD⟩ := back_std (w1 := (wX9_setByBits cI cB a_st a_ins a_mc a_me a_ps a_by a_ks a_rg v_op v_i v_r v_s v_a v_b u_13 u_142.1 u_142.2)) (w2 := (wX9_changeByte cI cB a_st a_ins a_mc a_me a_ps a_by a_ks a_rg v_op v_i v_r v_s v_a v_b u_13 u_142.1 u_142.2 v_kF)) (wr := [(a_ks, .inl (cI, 4, .inl v_kF))]) hP hD [0, 1, 2, 3, 4, 5] [6] [1, 2, 3, 4, 5, 6, 0] rfl rfl (by decide) (by decide) hk9 hFc hB9 ht9 (by decide) rfl
            clear hB9 hk9 hz9 hvm9 ht9 hFc hPc hDc
            generalize H1 = H at hP hS ⊢
            refine lv_goto (tgt := 161) hx hb dX9_changeByte_145 (by decide) ?_
            have hf9 : (u_13, u_142.1, u_142.2) = fX9_changeByte v_op v_i v_a v_fault v_word v_bF v_kF := by simp only [fX9_changeByte, ← eu_13, ← er_20, ← er_38, ← eu_142, if_neg c_23, if_neg c_49_0, if_neg c_49_1, if_neg c_49_2, if_pos c_49_3]
            exact W.vret hx hb hr (fun t9 ht9 hW9 => ⟨⟨(u_13, u_142.1, u_142.2), rfl, hf9, ⟨by rw [ht9]; exact hP, va_K.moved hW9.alike hK, hD⟩⟩, hS.F ht9⟩) hS.2.2 dX9_changeByte_161
          · skip
            refine sw_def (tgt := 148) hx hb [146, 147, 148, 150] dX9_changeByte_49 (by decide) (by decide) ?_ (by decide) ?_
            · intro v hv he
              simp only [List.mem_cons, List.not_mem_nil, or_false] at hv
              have hx9 : v_op = Int32.ofInt v := by rw [← he, Int32.ofInt_toInt]
              revert hx9
              rcases hv with rfl | rfl | rfl | rfl <;> intro hx9 <;> first | exact c_49_0 (by rw [hx9]; decide) | exact c_49_1 (by rw [hx9]; decide) | exact c_49_2 (by rw [hx9]; decide) | exact c_49_3 (by rw [hx9]; decide)
            · skip
              refine lv_aload_n hx hb dX9_changeByte_148 rfl (lv_at hl 1 rfl) ?_
              refine lv_iload_n hx hb dX9_changeByte_149 rfl (lv_at hl 0 rfl) ?_
              refine lv_aload_n hx hb dX9_changeByte_150 rfl (lv_at hl 1 rfl) ?_
              refine va_get (D := D) (ci := 9) (v := .ref a_ins) (C := RX9) (T := TX9) (N := 3) hx hb hts in_X9 hown hK hP 0 rfl rfl 1 (by decide) q_1 (fun _ h9 => h9) rfl dX9_changeByte_151 ?_
              refine va_getN (D := D) (ci := 4) (v := .int v_i) (C := RX4) (T := TX4) (N := 8) hx hb hts in_X4 hown hK hP 1 rfl rfl 3 (by decide) n_2 (fun _ h9 => h9) rfl dX9_changeByte_154 ?_
              refine lv_ixor hx hb dX9_changeByte_157 ?_
              have hPc : va_P D vwCl (wX9_setByBits cI cB a_st a_ins a_mc a_me a_ps a_by a_ks a_rg v_op v_i v_r v_s v_a v_b u_13 v_word v_bF) H := hP.sub [0, 1, 2, 3, 4, 5] rfl
              have hDc : va_D A (wX9_setByBits cI cB a_st a_ins a_mc a_me a_ps a_by a_ks a_rg v_op v_i v_r v_s v_a v_b u_13 v_word v_bF) := hD.sub [0, 1, 2, 3, 4, 5] (by decide) rfl
              have hFc := va_free (wc := (wX9_setByBits cI cB a_st a_ins a_mc a_me a_ps a_by a_ks a_rg v_op v_i v_r v_s v_a v_b u_13 v_word v_bF)) hD hS hA [0, 1, 2, 3, 4, 5] rfl
              refine va_callv (va_runV (As := [.int (r_38 ^^^ v_i)]) (rest := []) ⟨hx, hb, hml, hown, hts⟩ (kX9_setByBits l D cI cB a_st a_ins a_mc a_me a_ps a_by a_ks a_rg H.size v_op v_i v_r v_s v_a v_b u_13 v_word v_bF (r_38 ^^^ v_i)) (cwV 1 hts (gd_V wd_456 wd_457 wd_458 wd_455 wd_448) rfl rfl rfl hdX9_setByBits ⟨Nat.le_of_ble_eq_true rfl, Nat.le_of_ble_eq_true rfl⟩) (preV_std (ci := 9) (q0 := 0) hPc hK hDc hNW rfl rfl) rfl rfl hl.1 rfl (lv_room (Nat.le_of_ble_eq_true rfl)) dX9_changeByte_158 ⟨Nat.zero_le _, Nat.zero_le _⟩) hS (fun q _ h => hFc q h) hFc (fun u_158 t9 H1 locs ht9 hvm9 hw9 hB9 hz9 hk9 hS => ?_)
              have eu_158 : u_158 = fX9_setByBits (r_38 ^^^ v_i) v_a v_word v_bF := hw9
              obtain ⟨hP, hD⟩ := back_std (w1 := (wX9_setByBits cI cB a_st a_ins a_mc a_me a_ps a_by a_ks a_rg v_op v_i v_r v_s v_a v_b u_13 u_158.1 u_158.2)) (w2 := (wX9_changeByte cI cB a_st a_ins a_mc a_me a_ps a_by a_ks a_rg v_op v_i v_r v_s v_a v_b u_13 u_158.1 u_158.2 v_kF)) (wr := [(a_ks, .inl (cI, 4, .inl v_kF))]) hP hD [0, 1, 2, 3, 4, 5] [6] [1, 2, 3, 4, 5, 6, 0] rfl rfl (by decide) (by decide) hk9 hFc hB9 ht9 (by decide) rfl
              clear hB9 hk9 hz9 hvm9 ht9 hFc hPc hDc
              generalize H1 = H at hP hS ⊢
              have hf9 : (u_13, u_158.1, u_158.2) = fX9_changeByte v_op v_i v_a v_fault v_word v_bF v_kF := by simp only [fX9_changeByte, ← eu_13, ← er_20, ← er_38, ← eu_158, if_neg c_23, if_neg c_49_0, if_neg c_49_1, if_neg c_49_2, if_neg c_49_3]
              exact W.vret hx hb hr (fun t9 ht9 hW9 => ⟨⟨(u_13, u_158.1, u_158.2), rfl, hf9, ⟨by rw [ht9]; exact hP, va_K.moved hW9.alike hK, hD⟩⟩, hS.F ht9⟩) hS.2.2 dX9_changeByte_161
  · skip
    have hf9 : (u_13, v_word, v_bF) = fX9_changeByte v_op v_i v_a v_fault v_word v_bF v_kF := by simp only [fX9_changeByte, ← eu_13, ← er_20, if_pos c_23]
    exact W.vret hx hb hr (fun t9 ht9 hW9 => ⟨⟨(u_13, v_word, v_bF), rfl, hf9, ⟨by rw [ht9]; exact hP, va_K.moved hW9.alike hK, hD⟩⟩, hS.F ht9⟩) hS.2.2 dX9_changeByte_26
theorem hdX9_changeByte : yX9_changeByte.cls = RX9 ∧ yX9_changeByte.cls ≠ "java/lang/invoke/MethodHandle" ∧ yX9_changeByte.cls ≠ "java/lang/invoke/VarHandle" ∧ (parseMethodDescriptor yX9_changeByte.desc).map (fun d => d.parameters.length) = some 0 := by decide +kernel
noncomputable def LX9_compare_13 (v_a : Int32) (v_b : Int32) (v_bF : (Nat → Int32)) (r_2 : Int32) (u_2 : Int32) : Nat → (Int32 × Int32 × Int32) → (Int32 × Int32 × Int32)
  | 0, w_13 => w_13
  | n9 + 1, w_13 =>
    if r_2 ≤ w_13.2.2 then ((w_13.1, w_13.2.1, w_13.2.2)) else (if w_13.1 = w_13.2.1 then (let r_28 := fX5_fine u_2; if r_28 = 0 then ((w_13.1, w_13.2.1, w_13.2.2)) else (let r_48 := fX6_get (v_a + w_13.2.2) v_bF; let r_66 := fX6_get (v_b + w_13.2.2) v_bF; let x_70 := w_13.2.2 + 1; LX9_compare_13 v_a v_b v_bF r_2 u_2 n9 (r_48, r_66, x_70))) else ((w_13.1, w_13.2.1, w_13.2.2)))
noncomputable def fX9_compare (v_i : Int32) (v_a : Int32) (v_b : Int32) (v_fault : Int32) (v_word : Int64) (v_bF : (Nat → Int32)) (v_kF : (Nat → Int32)) : (Int32 × Int64) :=
  let p_2 := fX9_demandBoth 0 v_i v_a v_b v_fault v_word v_kF
  let r_2 := p_2.1
  let u_2 := p_2.2
  let g_13 := LX9_compare_13 v_a v_b v_bF r_2 u_2 (msU r_2 0 + 1) (0, 0, 0)
  let r_80 := fX5_fine u_2
  if r_80 = 0 then ((u_2, v_word)) else (let u_94 := fX5_conditionByComparing ((g_13.1 : Int32).toInt64) ((g_13.2.1 : Int32).toInt64) v_word; (u_2, u_94))
abbrev wX9_compare (cI cB : ClassId) (a_st a_ins a_mc a_me a_ps a_by a_ks a_rg : Nat) (v_op : Int32) (v_i : Int32) (v_r : Int32) (v_s : Int32) (v_a : Int32) (v_b : Int32) (v_fault : Int32) (v_word : Int64) (v_bF : (Nat → Int32)) (v_kF : (Nat → Int32)) : va_W := [(a_st, .inr (9, [.ref a_mc, .ref a_ins, .ref a_me])), (a_ins, .inr (4, [.ref a_mc, .ref a_me, .int v_op, .int v_i, .int v_r, .int v_s, .int v_a, .int v_b])), (a_mc, .inr (5, [.ref a_me, .ref a_ps, .ref a_rg, .int v_fault])), (a_me, .inr (6, [.ref a_by, .ref a_ks])), (a_ps, .inr (7, [.long v_word])), (a_by, .inl (cB, 8192, .inl v_bF)), (a_ks, .inl (cI, 4, .inl v_kF))]
abbrev rmX9_compare : Room := { frames := 3, cells := 0, slots := 0, locals := 71 }
abbrev qX9_compare (D : va_G) (cI cB : ClassId) (a_st a_ins a_mc a_me a_ps a_by a_ks a_rg : Nat) (v_op : Int32) (v_i : Int32) (v_r : Int32) (v_s : Int32) (v_a : Int32) (v_b : Int32) (v_fault : Int32) (v_word : Int64) (v_bF : (Nat → Int32)) (v_kF : (Nat → Int32)) : (Nat → Prop) → Array Value → State → Outcome → State → Prop := fun A9 => va_Qv (fun (u9 : (Int32 × Int64)) => u9 = fX9_compare v_i v_a v_b v_fault v_word v_bF v_kF) (fun u9 t9 => atW D (TYS cI cB) A9 (wX9_compare cI cB a_st a_ins a_mc a_me a_ps a_by a_ks a_rg v_op v_i v_r v_s v_a v_b u9.1 u9.2 v_bF v_kF) t9) A9
set_option maxHeartbeats 4000000 in
set_option maxRecDepth 100000 in
theorem kX9_compare (l : Launch) (D : va_G) (cI cB : ClassId) (a_st a_ins a_mc a_me a_ps a_by a_ks a_rg : Nat) (sz : Nat) (v_op : Int32) (v_i : Int32) (v_r : Int32) (v_s : Int32) (v_a : Int32) (v_b : Int32) (v_fault : Int32) (v_word : Int64) (v_bF : (Nat → Int32)) (v_kF : (Nat → Int32)) : MetW l yX9_compare (WK yX9_compare cX9_compare 5 none) rmX9_compare D (TYS cI cB) (wX9_compare cI cB a_st a_ins a_mc a_me a_ps a_by a_ks a_rg v_op v_i v_r v_s v_a v_b v_fault v_word v_bF v_kF) sz [.ref a_st] (qX9_compare D cI cB a_st a_ins a_mc a_me a_ps a_by a_ks a_rg v_op v_i v_r v_s v_a v_b v_fault v_word v_bF v_kF) 0 0 := by
  refine met_std (by decide) rfl (Nat.le_of_ble_eq_true rfl) ?_
  intro p e s m below meth c A ls H hx hb hr hml hown hts hlocks hA hP hK hD hS hNW hl
  have hl : lv_has ls 5 [(0, .ref a_st)] := hl
  have q_0 := hts _ (List.mem_cons_of_mem _ wd_435)
  have q_1 := hts _ (List.mem_cons_of_mem _ wd_437)
  have q_2 := hts _ (List.mem_cons_of_mem _ wd_436)
  have n_0 := hNW.f (A := ([.ref a_st] : List Value).toArray) ("MainframeCore$Strings", 26, "MainframeCore$Instruction", "a", "I", "MainframeCore") (by decide +kernel)
  have n_1 := hNW.f (A := ([.ref a_st] : List Value).toArray) ("MainframeCore$Strings", 83, "MainframeCore$Instruction", "b", "I", "MainframeCore") (by decide +kernel)
  refine lv_aload_n hx hb dX9_compare_0 rfl (lv_at hl 0 rfl) ?_
  refine lv_iconst (v := 0) hx hb dX9_compare_1 (by decide) ?_
  have hPc : va_P D vwCl (wX9_demandBoth cI cB a_st a_ins a_mc a_me a_ps a_by a_ks a_rg v_op v_i v_r v_s v_a v_b v_fault v_word v_kF) H := hP.sub [0, 1, 2, 3, 4, 6] rfl
  have hDc : va_D A (wX9_demandBoth cI cB a_st a_ins a_mc a_me a_ps a_by a_ks a_rg v_op v_i v_r v_s v_a v_b v_fault v_word v_kF) := hD.sub [0, 1, 2, 3, 4, 6] (by decide) rfl
  have hFc := va_free (wc := (wX9_demandBoth cI cB a_st a_ins a_mc a_me a_ps a_by a_ks a_rg v_op v_i v_r v_s v_a v_b v_fault v_word v_kF)) hD hS hA [0, 1, 2, 3, 4, 6] rfl
  refine va_calli (va_runV (As := [.int 0]) (rest := []) ⟨hx, hb, hml, hown, hts⟩ (kX9_demandBoth l D cI cB a_st a_ins a_mc a_me a_ps a_by a_ks a_rg H.size v_op v_i v_r v_s v_a v_b v_fault v_word v_kF 0) (cwV 1 hts (gd_V wd_461 wd_462 wd_463 wd_455 wd_460) rfl rfl rfl hdX9_demandBoth ⟨Nat.le_of_ble_eq_true rfl, Nat.le_of_ble_eq_true rfl⟩) (preV_std (ci := 9) (q0 := 0) hPc hK hDc hNW rfl rfl) rfl rfl hl.1 rfl (lv_room (Nat.le_of_ble_eq_true rfl)) dX9_compare_2 ⟨Nat.zero_le _, Nat.zero_le _⟩) hS (fun q _ h => hFc q h) hFc (fun r_2 u_2 t9 H1 locs ht9 hvm9 hw9 hB9 hz9 hk9 hS => ?_)
  obtain ⟨er_2, eu_2⟩ := hw9
  obtain ⟨hP, hD⟩ := back_std (w1 := (wX9_demandBoth cI cB a_st a_ins a_mc a_me a_ps a_by a_ks a_rg v_op v_i v_r v_s v_a v_b u_2 v_word v_kF)) (w2 := (wX9_compare cI cB a_st a_ins a_mc a_me a_ps a_by a_ks a_rg v_op v_i v_r v_s v_a v_b u_2 v_word v_bF v_kF)) (wr := [(a_by, .inl (cB, 8192, .inl v_bF))]) hP hD [0, 1, 2, 3, 4, 6] [5] [1, 2, 3, 4, 5, 0, 6] rfl rfl (by decide) (by decide) hk9 hFc hB9 ht9 (by decide) rfl
  clear hB9 hk9 hz9 hvm9 ht9 hFc hPc hDc
  generalize H1 = H at hP hS ⊢
  refine lv_istore_n (lv' := [(1, .int r_2), (0, .ref a_st)]) hx hb dX9_compare_5 rfl hl (by decide) rfl (fun ls hl => ?_)
  refine lv_iconst (v := 0) hx hb dX9_compare_6 (by decide) ?_
  refine lv_istore_n (lv' := [(2, .int 0), (1, .int r_2), (0, .ref a_st)]) hx hb dX9_compare_7 rfl hl (by decide) rfl (fun ls hl => ?_)
  refine lv_iconst (v := 0) hx hb dX9_compare_8 (by decide) ?_
  refine lv_istore_n (lv' := [(3, .int 0), (2, .int 0), (1, .int r_2), (0, .ref a_st)]) hx hb dX9_compare_9 rfl hl (by decide) rfl (fun ls hl => ?_)
  refine lv_iconst (v := 0) hx hb dX9_compare_10 (by decide) ?_
  refine lv_istore (lv' := [(4, .int 0), (3, .int 0), (2, .int 0), (1, .int r_2), (0, .ref a_st)]) hx hb dX9_compare_11 hl (by decide) rfl (fun ls hl => ?_)
  obtain ⟨g_13, eg_13⟩ : ∃ z : (Int32 × Int32 × Int32), z = LX9_compare_13 v_a v_b v_bF r_2 u_2 (msU r_2 0 + 1) (0, 0, 0) := ⟨_, rfl⟩
  have K_13_0 : ∀ (H : Heap) (locs : List Loc), va_P D vwCl (wX9_compare cI cB a_st a_ins a_mc a_me a_ps a_by a_ks a_rg v_op v_i v_r v_s v_a v_b u_2 v_word v_bF v_kF) H → va_D A (wX9_compare cI cB a_st a_ins a_mc a_me a_ps a_by a_ks a_rg v_op v_i v_r v_s v_a v_b u_2 v_word v_bF v_kF) → va_S A s.heap H locs → ∀ (ls : Array Slot), lv_has ls 5 [(0, .ref a_st), (1, .int r_2), (2, .int g_13.1), (3, .int g_13.2.1), (4, .int g_13.2.2)] → W p l e rmX9_compare s m ([.ref a_st] : List Value).toArray below meth c H locs 0 0 (MQ below (qX9_compare D cI cB a_st a_ins a_mc a_me a_ps a_by a_ks a_rg v_op v_i v_r v_s v_a v_b v_fault v_word v_bF v_kF A) ([.ref a_st] : List Value).toArray s 0 0 A) (F0 m 76 ls []) := by
    intro H locs hP hD hS ls hl
    refine lv_aload_n hx hb dX9_compare_76 rfl (lv_at hl 0 rfl) ?_
    refine va_get (D := D) (ci := 9) (v := .ref a_mc) (C := RX9) (T := TX9) (N := 3) hx hb hts in_X9 hown hK hP 0 rfl rfl 0 (by decide) q_0 (fun _ h9 => h9) rfl dX9_compare_77 ?_
    have hPc : va_P D vwCl (wX5_fine cI cB a_mc a_me a_ps a_rg u_2) H := hP.sub [2] rfl
    have hDc : va_D A (wX5_fine cI cB a_mc a_me a_ps a_rg u_2) := hD.sub [2] (by decide) rfl
    have hFc := va_free (wc := (wX5_fine cI cB a_mc a_me a_ps a_rg u_2)) hD hS hA [2] rfl
    refine va_calli (va_runV (As := []) (rest := []) ⟨hx, hb, hml, hown, hts⟩ (kX5_fine l D cI cB a_mc a_me a_ps a_rg H.size u_2 ) (cwV 0 hts (gd_V wd_439 wd_73 wd_74 wd_24 wd_66) rfl rfl rfl hdX5_fine ⟨Nat.le_of_ble_eq_true rfl, Nat.le_of_ble_eq_true rfl⟩) (preV_std (ci := 5) (q0 := 0) hPc hK hDc hNW rfl rfl) rfl rfl hl.1 rfl (lv_room (Nat.le_of_ble_eq_true rfl)) dX9_compare_80 ⟨Nat.zero_le _, Nat.zero_le _⟩) hS (fun q _ h => hFc q h) hFc (fun r_80 u_80 t9 H1 locs ht9 hvm9 hw9 hB9 hz9 hk9 hS => ?_)
    have er_80 : r_80 = fX5_fine u_2 := hw9
    have zr_80 : r_80 = 0 ∨ r_80 = 1 := by rw [er_80]; exact zX5_fine _
    obtain ⟨hP, hD⟩ := back_std (w1 := (wX5_fine cI cB a_mc a_me a_ps a_rg u_2)) (w2 := (wX9_compare cI cB a_st a_ins a_mc a_me a_ps a_by a_ks a_rg v_op v_i v_r v_s v_a v_b u_2 v_word v_bF v_kF)) (wr := [(a_st, .inr (9, [.ref a_mc, .ref a_ins, .ref a_me])), (a_ins, .inr (4, [.ref a_mc, .ref a_me, .int v_op, .int v_i, .int v_r, .int v_s, .int v_a, .int v_b])), (a_me, .inr (6, [.ref a_by, .ref a_ks])), (a_ps, .inr (7, [.long v_word])), (a_by, .inl (cB, 8192, .inl v_bF)), (a_ks, .inl (cI, 4, .inl v_kF))]) hP hD [2] [0, 1, 3, 4, 5, 6] [0, 1, 6, 2, 3, 4, 5] rfl rfl (by decide) (by decide) hk9 hFc hB9 ht9 (by decide) rfl
    clear hB9 hk9 hz9 hvm9 ht9 hFc hPc hDc
    generalize H1 = H at hP hS ⊢
    refine lv_if_eq (tgt := 97) hx hb dX9_compare_83 (by decide) (fun c_83 => ?_) (fun c_83 => ?_)
    · skip
      have hf9 : (u_2, v_word) = fX9_compare v_i v_a v_b v_fault v_word v_bF v_kF := by simp only [fX9_compare, ← er_2, ← eu_2, ← eg_13, ← er_80, if_pos c_83]
      exact W.vret hx hb hr (fun t9 ht9 hW9 => ⟨⟨(u_2, v_word), rfl, hf9, ⟨by rw [ht9]; exact hP, va_K.moved hW9.alike hK, hD⟩⟩, hS.F ht9⟩) hS.2.2 dX9_compare_97
    · skip
      refine lv_aload_n hx hb dX9_compare_86 rfl (lv_at hl 0 rfl) ?_
      refine va_get (D := D) (ci := 9) (v := .ref a_mc) (C := RX9) (T := TX9) (N := 3) hx hb hts in_X9 hown hK hP 0 rfl rfl 0 (by decide) q_0 (fun _ h9 => h9) rfl dX9_compare_87 ?_
      refine lv_iload_n hx hb dX9_compare_90 rfl (lv_at hl 2 rfl) ?_
      refine lv_i2l hx hb dX9_compare_91 rfl ?_
      refine lv_iload_n hx hb dX9_compare_92 rfl (lv_at hl 3 rfl) ?_
      refine lv_i2l hx hb dX9_compare_93 rfl ?_
      have hPc : va_P D vwCl (wX5_conditionByComparing cI cB a_mc a_me a_ps a_rg u_2 v_word) H := hP.sub [2, 4] rfl
      have hDc : va_D A (wX5_conditionByComparing cI cB a_mc a_me a_ps a_rg u_2 v_word) := hD.sub [2, 4] (by decide) rfl
      have hFc := va_free (wc := (wX5_conditionByComparing cI cB a_mc a_me a_ps a_rg u_2 v_word)) hD hS hA [2, 4] rfl
      refine va_callv (va_runV (As := [.long (g_13.1 : Int32).toInt64, .long (g_13.2.1 : Int32).toInt64]) (rest := []) ⟨hx, hb, hml, hown, hts⟩ (kX5_conditionByComparing l D cI cB a_mc a_me a_ps a_rg H.size u_2 v_word ((g_13.1 : Int32).toInt64) ((g_13.2.1 : Int32).toInt64)) (cwV 2 hts (gd_V wd_441 wd_442 wd_443 wd_24 wd_376) rfl rfl rfl hdX5_conditionByComparing ⟨Nat.le_of_ble_eq_true rfl, Nat.le_of_ble_eq_true rfl⟩) (preV_std (ci := 5) (q0 := 0) hPc hK hDc hNW rfl rfl) rfl rfl hl.1 rfl (lv_room (Nat.le_of_ble_eq_true rfl)) dX9_compare_94 ⟨Nat.zero_le _, Nat.zero_le _⟩) hS (fun q _ h => hFc q h) hFc (fun u_94 t9 H1 locs ht9 hvm9 hw9 hB9 hz9 hk9 hS => ?_)
      have eu_94 : u_94 = fX5_conditionByComparing ((g_13.1 : Int32).toInt64) ((g_13.2.1 : Int32).toInt64) v_word := hw9
      obtain ⟨hP, hD⟩ := back_std (w1 := (wX5_conditionByComparing cI cB a_mc a_me a_ps a_rg u_2 u_94)) (w2 := (wX9_compare cI cB a_st a_ins a_mc a_me a_ps a_by a_ks a_rg v_op v_i v_r v_s v_a v_b u_2 u_94 v_bF v_kF)) (wr := [(a_st, .inr (9, [.ref a_mc, .ref a_ins, .ref a_me])), (a_ins, .inr (4, [.ref a_mc, .ref a_me, .int v_op, .int v_i, .int v_r, .int v_s, .int v_a, .int v_b])), (a_me, .inr (6, [.ref a_by, .ref a_ks])), (a_by, .inl (cB, 8192, .inl v_bF)), (a_ks, .inl (cI, 4, .inl v_kF))]) hP hD [2, 4] [0, 1, 3, 5, 6] [0, 1, 5, 2, 6, 3, 4] rfl rfl (by decide) (by decide) hk9 hFc hB9 ht9 (by decide) rfl
      clear hB9 hk9 hz9 hvm9 ht9 hFc hPc hDc
      generalize H1 = H at hP hS ⊢
      have hf9 : (u_2, u_94) = fX9_compare v_i v_a v_b v_fault v_word v_bF v_kF := by simp only [fX9_compare, ← er_2, ← eu_2, ← eg_13, ← er_80, ← eu_94, if_neg c_83]
      exact W.vret hx hb hr (fun t9 ht9 hW9 => ⟨⟨(u_2, u_94), rfl, hf9, ⟨by rw [ht9]; exact hP, va_K.moved hW9.alike hK, hD⟩⟩, hS.F ht9⟩) hS.2.2 dX9_compare_97
  have lp_13 : ∀ (n9 : Nat) (w_13 : (Int32 × Int32 × Int32)), msU r_2 w_13.2.2 < n9 → LX9_compare_13 v_a v_b v_bF r_2 u_2 n9 w_13 = g_13 → ∀ (H : Heap) (locs : List Loc), va_P D vwCl (wX9_compare cI cB a_st a_ins a_mc a_me a_ps a_by a_ks a_rg v_op v_i v_r v_s v_a v_b u_2 v_word v_bF v_kF) H → va_D A (wX9_compare cI cB a_st a_ins a_mc a_me a_ps a_by a_ks a_rg v_op v_i v_r v_s v_a v_b u_2 v_word v_bF v_kF) → va_S A s.heap H locs → ∀ (ls : Array Slot), lv_has ls 5 [(0, .ref a_st), (1, .int r_2), (2, .int w_13.1), (3, .int w_13.2.1), (4, .int w_13.2.2)] → W p l e rmX9_compare s m ([.ref a_st] : List Value).toArray below meth c H locs 0 0 (MQ below (qX9_compare D cI cB a_st a_ins a_mc a_me a_ps a_by a_ks a_rg v_op v_i v_r v_s v_a v_b v_fault v_word v_bF v_kF A) ([.ref a_st] : List Value).toArray s 0 0 A) (F0 m 13 ls []) := by
    intro n9
    induction n9 with
    | zero => intro w_13 hm9; exact absurd hm9 (Nat.not_lt_zero _)
    | succ n9 ih =>
      intro w_13 hm9 hL9 H locs hP hD hS ls hl
      refine lv_iload hx hb dX9_compare_13 (lv_at hl 4 rfl) ?_
      refine lv_iload_n hx hb dX9_compare_15 rfl (lv_at hl 1 rfl) ?_
      refine lv_icmp_ge (tgt := 76) hx hb dX9_compare_16 (by decide) (fun c_16 => ?_) (fun c_16 => ?_)
      · skip
        have hg9 : (w_13.1, w_13.2.1, w_13.2.2) = g_13 := by rw [← hL9]; simp only [LX9_compare_13, if_pos c_16]
        subst hg9
        exact K_13_0 _ _ hP hD hS ls (lv_sub hl [0, 1, 2, 3, 4] rfl)
      · skip
        refine lv_iload_n hx hb dX9_compare_19 rfl (lv_at hl 2 rfl) ?_
        refine lv_iload_n hx hb dX9_compare_20 rfl (lv_at hl 3 rfl) ?_
        refine lv_icmp_ne (tgt := 76) hx hb dX9_compare_21 (by decide) (fun c_21 => ?_) (fun c_21 => ?_)
        · skip
          have hg9 : (w_13.1, w_13.2.1, w_13.2.2) = g_13 := by rw [← hL9]; simp only [LX9_compare_13, if_neg c_16, if_neg c_21]
          subst hg9
          exact K_13_0 _ _ hP hD hS ls (lv_sub hl [0, 1, 2, 3, 4] rfl)
        · skip
          refine lv_aload_n hx hb dX9_compare_24 rfl (lv_at hl 0 rfl) ?_
          refine va_get (D := D) (ci := 9) (v := .ref a_mc) (C := RX9) (T := TX9) (N := 3) hx hb hts in_X9 hown hK hP 0 rfl rfl 0 (by decide) q_0 (fun _ h9 => h9) rfl dX9_compare_25 ?_
          have hPc : va_P D vwCl (wX5_fine cI cB a_mc a_me a_ps a_rg u_2) H := hP.sub [2] rfl
          have hDc : va_D A (wX5_fine cI cB a_mc a_me a_ps a_rg u_2) := hD.sub [2] (by decide) rfl
          have hFc := va_free (wc := (wX5_fine cI cB a_mc a_me a_ps a_rg u_2)) hD hS hA [2] rfl
          refine va_calli (va_runV (As := []) (rest := []) ⟨hx, hb, hml, hown, hts⟩ (kX5_fine l D cI cB a_mc a_me a_ps a_rg H.size u_2 ) (cwV 0 hts (gd_V wd_439 wd_73 wd_74 wd_24 wd_66) rfl rfl rfl hdX5_fine ⟨Nat.le_of_ble_eq_true rfl, Nat.le_of_ble_eq_true rfl⟩) (preV_std (ci := 5) (q0 := 0) hPc hK hDc hNW rfl rfl) rfl rfl hl.1 rfl (lv_room (Nat.le_of_ble_eq_true rfl)) dX9_compare_28 ⟨Nat.zero_le _, Nat.zero_le _⟩) hS (fun q _ h => hFc q h) hFc (fun r_28 u_28 t9 H1 locs ht9 hvm9 hw9 hB9 hz9 hk9 hS => ?_)
          have er_28 : r_28 = fX5_fine u_2 := hw9
          have zr_28 : r_28 = 0 ∨ r_28 = 1 := by rw [er_28]; exact zX5_fine _
          obtain ⟨hP, hD⟩ := back_std (w1 := (wX5_fine cI cB a_mc a_me a_ps a_rg u_2)) (w2 := (wX9_compare cI cB a_st a_ins a_mc a_me a_ps a_by a_ks a_rg v_op v_i v_r v_s v_a v_b u_2 v_word v_bF v_kF)) (wr := [(a_st, .inr (9, [.ref a_mc, .ref a_ins, .ref a_me])), (a_ins, .inr (4, [.ref a_mc, .ref a_me, .int v_op, .int v_i, .int v_r, .int v_s, .int v_a, .int v_b])), (a_me, .inr (6, [.ref a_by, .ref a_ks])), (a_ps, .inr (7, [.long v_word])), (a_by, .inl (cB, 8192, .inl v_bF)), (a_ks, .inl (cI, 4, .inl v_kF))]) hP hD [2] [0, 1, 3, 4, 5, 6] [0, 1, 6, 2, 3, 4, 5] rfl rfl (by decide) (by decide) hk9 hFc hB9 ht9 (by decide) rfl
          clear hB9 hk9 hz9 hvm9 ht9 hFc hPc hDc
          generalize H1 = H at hP hS ⊢
          refine lv_if_eq (tgt := 76) hx hb dX9_compare_31 (by decide) (fun c_31 => ?_) (fun c_31 => ?_)
          · skip
            have hg9 : (w_13.1, w_13.2.1, w_13.2.2) = g_13 := by rw [← hL9]; simp only [LX9_compare_13, ← er_28, if_neg c_16, if_pos c_21, if_pos c_31]
            subst hg9
            exact K_13_0 _ _ hP hD hS ls (lv_sub hl [0, 1, 2, 3, 4] rfl)
          · skip
            refine lv_aload_n hx hb dX9_compare_34 rfl (lv_at hl 0 rfl) ?_
            refine va_get (D := D) (ci := 9) (v := .ref a_me) (C := RX9) (T := TX9) (N := 3) hx hb hts in_X9 hown hK hP 0 rfl rfl 2 (by decide) q_1 (fun _ h9 => h9) rfl dX9_compare_35 ?_
            refine lv_aload_n hx hb dX9_compare_38 rfl (lv_at hl 0 rfl) ?_
            refine va_get (D := D) (ci := 9) (v := .ref a_ins) (C := RX9) (T := TX9) (N := 3) hx hb hts in_X9 hown hK hP 0 rfl rfl 1 (by decide) q_2 (fun _ h9 => h9) rfl dX9_compare_39 ?_
            refine va_getN (D := D) (ci := 4) (v := .int v_a) (C := RX4) (T := TX4) (N := 8) hx hb hts in_X4 hown hK hP 1 rfl rfl 6 (by decide) n_0 (fun _ h9 => h9) rfl dX9_compare_42 ?_
            refine lv_iload hx hb dX9_compare_45 (lv_at hl 4 rfl) ?_
            refine lv_iadd hx hb dX9_compare_47 ?_
            have hPc : va_P D vwCl (wX6_get cI cB a_me a_by a_ks v_bF) H := hP.sub [3, 5] rfl
            have hDc : va_D A (wX6_get cI cB a_me a_by a_ks v_bF) := hD.sub [3, 5] (by decide) rfl
            have hFc := va_free (wc := (wX6_get cI cB a_me a_by a_ks v_bF)) hD hS hA [3, 5] rfl
            refine va_calli (va_runV (As := [.int (v_a + w_13.2.2)]) (rest := []) ⟨hx, hb, hml, hown, hts⟩ (kX6_get l D cI cB a_me a_by a_ks H.size v_bF (v_a + w_13.2.2)) (cwV 1 hts (gd_V wd_440 wd_109 wd_110 wd_78 wd_102) rfl rfl rfl hdX6_get ⟨Nat.le_of_ble_eq_true rfl, Nat.le_of_ble_eq_true rfl⟩) (preV_std (ci := 6) (q0 := 0) hPc hK hDc hNW rfl rfl) rfl rfl hl.1 rfl (lv_room (Nat.le_of_ble_eq_true rfl)) dX9_compare_48 ⟨Nat.zero_le _, Nat.zero_le _⟩) hS (fun q _ h => hFc q h) hFc (fun r_48 u_48 t9 H1 locs ht9 hvm9 hw9 hB9 hz9 hk9 hS => ?_)
            have er_48 : r_48 = fX6_get (v_a + w_13.2.2) v_bF := hw9
            obtain ⟨hP, hD⟩ := back_std (w1 := (wX6_get cI cB a_me a_by a_ks v_bF)) (w2 := (wX9_compare cI cB a_st a_ins a_mc a_me a_ps a_by a_ks a_rg v_op v_i v_r v_s v_a v_b u_2 v_word v_bF v_kF)) (wr := [(a_st, .inr (9, [.ref a_mc, .ref a_ins, .ref a_me])), (a_ins, .inr (4, [.ref a_mc, .ref a_me, .int v_op, .int v_i, .int v_r, .int v_s, .int v_a, .int v_b])), (a_mc, .inr (5, [.ref a_me, .ref a_ps, .ref a_rg, .int u_2])), (a_ps, .inr (7, [.long v_word])), (a_ks, .inl (cI, 4, .inl v_kF))]) hP hD [3, 5] [0, 1, 2, 4, 6] [0, 1, 2, 5, 3, 6, 4] rfl rfl (by decide) (by decide) hk9 hFc hB9 ht9 (by decide) rfl
            clear hB9 hk9 hz9 hvm9 ht9 hFc hPc hDc
            generalize H1 = H at hP hS ⊢
            refine lv_istore_n (lv' := [(2, .int r_48), (0, .ref a_st), (1, .int r_2), (3, .int w_13.2.1), (4, .int w_13.2.2)]) hx hb dX9_compare_51 rfl hl (by decide) rfl (fun ls hl => ?_)
            refine lv_aload_n hx hb dX9_compare_52 rfl (lv_at hl 1 rfl) ?_
            refine va_get (D := D) (ci := 9) (v := .ref a_me) (C := RX9) (T := TX9) (N := 3) hx hb hts in_X9 hown hK hP 0 rfl rfl 2 (by decide) q_1 (fun _ h9 => h9) rfl dX9_compare_53 ?_
            refine lv_aload_n hx hb dX9_compare_56 rfl (lv_at hl 1 rfl) ?_
            refine va_get (D := D) (ci := 9) (v := .ref a_ins) (C := RX9) (T := TX9) (N := 3) hx hb hts in_X9 hown hK hP 0 rfl rfl 1 (by decide) q_2 (fun _ h9 => h9) rfl dX9_compare_57 ?_
            refine va_getN (D := D) (ci := 4) (v := .int v_b) (C := RX4) (T := TX4) (N := 8) hx hb hts in_X4 hown hK hP 1 rfl rfl 7 (by decide) n_1 (fun _ h9 => h9) rfl dX9_compare_60 ?_
            refine lv_iload hx hb dX9_compare_63 (lv_at hl 4 rfl) ?_
            refine lv_iadd hx hb dX9_compare_65 ?_
            have hPc : va_P D vwCl (wX6_get cI cB a_me a_by a_ks v_bF) H := hP.sub [3, 5] rfl
            have hDc : va_D A (wX6_get cI cB a_me a_by a_ks v_bF) := hD.sub [3, 5] (by decide) rfl
            have hFc := va_free (wc := (wX6_get cI cB a_me a_by a_ks v_bF)) hD hS hA [3, 5] rfl
            refine va_calli (va_runV (As := [.int (v_b + w_13.2.2)]) (rest := []) ⟨hx, hb, hml, hown, hts⟩ (kX6_get l D cI cB a_me a_by a_ks H.size v_bF (v_b + w_13.2.2)) (cwV 1 hts (gd_V wd_440 wd_109 wd_110 wd_78 wd_102) rfl rfl rfl hdX6_get ⟨Nat.le_of_ble_eq_true rfl, Nat.le_of_ble_eq_true rfl⟩) (preV_std (ci := 6) (q0 := 0) hPc hK hDc hNW rfl rfl) rfl rfl hl.1 rfl (lv_room (Nat.le_of_ble_eq_true rfl)) dX9_compare_66 ⟨Nat.zero_le _, Nat.zero_le _⟩) hS (fun q _ h => hFc q h) hFc (fun r_66 u_66 t9 H1 locs ht9 hvm9 hw9 hB9 hz9 hk9 hS => ?_)
            have er_66 : r_66 = fX6_get (v_b + w_13.2.2) v_bF := hw9
            obtain ⟨hP, hD⟩ := back_std (w1 := (wX6_get cI cB a_me a_by a_ks v_bF)) (w2 := (wX9_compare cI cB a_st a_ins a_mc a_me a_ps a_by a_ks a_rg v_op v_i v_r v_s v_a v_b u_2 v_word v_bF v_kF)) (wr := [(a_st, .inr (9, [.ref a_mc, .ref a_ins, .ref a_me])), (a_ins, .inr (4, [.ref a_mc, .ref a_me, .int v_op, .int v_i, .int v_r, .int v_s, .int v_a, .int v_b])), (a_mc, .inr (5, [.ref a_me, .ref a_ps, .ref a_rg, .int u_2])), (a_ps, .inr (7, [.long v_word])), (a_ks, .inl (cI, 4, .inl v_kF))]) hP hD [3, 5] [0, 1, 2, 4, 6] [0, 1, 2, 5, 3, 6, 4] rfl rfl (by decide) (by decide) hk9 hFc hB9 ht9 (by decide) rfl
            clear hB9 hk9 hz9 hvm9 ht9 hFc hPc hDc
            generalize H1 = H at hP hS ⊢
            refine lv_istore_n (lv' := [(3, .int r_66), (2, .int r_48), (0, .ref a_st), (1, .int r_2), (4, .int w_13.2.2)]) hx hb dX9_compare_69 rfl hl (by decide) rfl (fun ls hl => ?_)
            obtain ⟨x_70, ex_70⟩ : ∃ z : Int32, z = w_13.2.2 + 1 := ⟨_, rfl⟩
            refine lv_iinc (v := x_70) (lv' := [(4, .int x_70), (3, .int r_66), (2, .int r_48), (0, .ref a_st), (1, .int r_2)]) hx hb dX9_compare_70 hl (k := 4) rfl (by rw [ex_70]; rfl) (by decide) rfl (fun ls hl => ?_)
            refine lv_goto (tgt := 13) hx hb dX9_compare_73 (by decide) ?_
            exact ih (r_48, r_66, x_70) (by subst ex_70; subst er_66; subst er_48; subst er_28;  exact Nat.lt_of_lt_of_le (ms_up c_16) (Nat.le_of_lt_succ hm9)) (by rw [← hL9]; subst ex_70; simp only [LX9_compare_13, ← er_28, ← er_48, ← er_66, if_neg c_16, if_pos c_21, if_neg c_31]) _ _ hP hD hS ls (lv_sub hl [3, 4, 2, 1, 0] rfl)
  exact lp_13 (msU r_2 0 + 1) (0, 0, 0) (Nat.lt_succ_self _) eg_13.symm _ _ hP hD hS ls (lv_sub hl [4, 3, 2, 1, 0] rfl)
theorem hdX9_compare : yX9_compare.cls = RX9 ∧ yX9_compare.cls ≠ "java/lang/invoke/MethodHandle" ∧ yX9_compare.cls ≠ "java/lang/invoke/VarHandle" ∧ (parseMethodDescriptor yX9_compare.desc).map (fun d => d.parameters.length) = some 0 := by decide +kernel
noncomputable def LX9_change_10 (v_op : Int32) (v_a : Int32) (v_b : Int32) (r_2 : Int32) (u_2 : Int32) : Nat → ((Nat → Int32) × Int32 × Int32) → ((Nat → Int32) × Int32 × Int32)
  | 0, w_10 => w_10
  | n9 + 1, w_10 =>
    if r_2 ≤ w_10.2.2 then ((w_10.1, w_10.2.1, w_10.2.2)) else (let r_19 := fX5_fine u_2; if r_19 = 0 then ((w_10.1, w_10.2.1, w_10.2.2)) else (let r_39 := fX6_get (v_a + w_10.2.2) w_10.1; let r_55 := fX6_get (v_b + w_10.2.2) w_10.1; let r_58 := fX9_joined r_39 r_55 v_op; let u_78 := fX6_set (v_a + w_10.2.2) r_58 w_10.1; let x_85 := (w_10.2.1 ||| r_58); let x_86 := w_10.2.2 + 1; LX9_change_10 v_op v_a v_b r_2 u_2 n9 (u_78, x_85, x_86)))
noncomputable def fX9_change (v_op : Int32) (v_i : Int32) (v_a : Int32) (v_b : Int32) (v_fault : Int32) (v_word : Int64) (v_bF : (Nat → Int32)) (v_kF : (Nat → Int32)) : (Int32 × Int64 × (Nat → Int32)) :=
  let p_2 := fX9_demandBoth 1 v_i v_a v_b v_fault v_word v_kF
  let r_2 := p_2.1
  let u_2 := p_2.2
  let g_10 := LX9_change_10 v_op v_a v_b r_2 u_2 (msU r_2 0 + 1) (v_bF, 0, 0)
  let r_96 := fX5_fine u_2
  if r_96 = 0 then ((u_2, v_word, g_10.1)) else (if v_op < 212 then ((u_2, v_word, g_10.1)) else (let u_120 := fX5_conditionByBits g_10.2.1 v_word; (u_2, u_120, g_10.1)))
abbrev wX9_change (cI cB : ClassId) (a_st a_ins a_mc a_me a_ps a_by a_ks a_rg : Nat) (v_op : Int32) (v_i : Int32) (v_r : Int32) (v_s : Int32) (v_a : Int32) (v_b : Int32) (v_fault : Int32) (v_word : Int64) (v_bF : (Nat → Int32)) (v_kF : (Nat → Int32)) : va_W := [(a_st, .inr (9, [.ref a_mc, .ref a_ins, .ref a_me])), (a_ins, .inr (4, [.ref a_mc, .ref a_me, .int v_op, .int v_i, .int v_r, .int v_s, .int v_a, .int v_b])), (a_mc, .inr (5, [.ref a_me, .ref a_ps, .ref a_rg, .int v_fault])), (a_me, .inr (6, [.ref a_by, .ref a_ks])), (a_ps, .inr (7, [.long v_word])), (a_by, .inl (cB, 8192, .inl v_bF)), (a_ks, .inl (cI, 4, .inl v_kF))]
abbrev rmX9_change : Room := { frames := 3, cells := 0, slots := 0, locals := 71 }
abbrev qX9_change (D : va_G) (cI cB : ClassId) (a_st a_ins a_mc a_me a_ps a_by a_ks a_rg : Nat) (v_op : Int32) (v_i : Int32) (v_r : Int32) (v_s : Int32) (v_a : Int32) (v_b : Int32) (v_fault : Int32) (v_word : Int64) (v_bF : (Nat → Int32)) (v_kF : (Nat → Int32)) : (Nat → Prop) → Array Value → State → Outcome → State → Prop := fun A9 => va_Qv (fun (u9 : (Int32 × Int64 × (Nat → Int32))) => u9 = fX9_change v_op v_i v_a v_b v_fault v_word v_bF v_kF) (fun u9 t9 => atW D (TYS cI cB) A9 (wX9_change cI cB a_st a_ins a_mc a_me a_ps a_by a_ks a_rg v_op v_i v_r v_s v_a v_b u9.1 u9.2.1 u9.2.2 v_kF) t9) A9
set_option maxHeartbeats 4000000 in
set_option maxRecDepth 100000 in
theorem kX9_change (l : Launch) (D : va_G) (cI cB : ClassId) (a_st a_ins a_mc a_me a_ps a_by a_ks a_rg : Nat) (sz : Nat) (v_op : Int32) (v_i : Int32) (v_r : Int32) (v_s : Int32) (v_a : Int32) (v_b : Int32) (v_fault : Int32) (v_word : Int64) (v_bF : (Nat → Int32)) (v_kF : (Nat → Int32)) : MetW l yX9_change (WK yX9_change cX9_change 5 none) rmX9_change D (TYS cI cB) (wX9_change cI cB a_st a_ins a_mc a_me a_ps a_by a_ks a_rg v_op v_i v_r v_s v_a v_b v_fault v_word v_bF v_kF) sz [.ref a_st] (qX9_change D cI cB a_st a_ins a_mc a_me a_ps a_by a_ks a_rg v_op v_i v_r v_s v_a v_b v_fault v_word v_bF v_kF) 0 0 := by
  refine met_std (by decide) rfl (Nat.le_of_ble_eq_true rfl) ?_
  intro p e s m below meth c A ls H hx hb hr hml hown hts hlocks hA hP hK hD hS hNW hl
  have hl : lv_has ls 5 [(0, .ref a_st)] := hl
  have q_0 := hts _ (List.mem_cons_of_mem _ wd_435)
  have q_1 := hts _ (List.mem_cons_of_mem _ wd_437)
  have q_2 := hts _ (List.mem_cons_of_mem _ wd_436)
  have n_0 := hNW.f (A := ([.ref a_st] : List Value).toArray) ("MainframeCore$Strings", 26, "MainframeCore$Instruction", "a", "I", "MainframeCore") (by decide +kernel)
  have n_1 := hNW.f (A := ([.ref a_st] : List Value).toArray) ("MainframeCore$Strings", 83, "MainframeCore$Instruction", "b", "I", "MainframeCore") (by decide +kernel)
  have n_2 := hNW.f (A := ([.ref a_st] : List Value).toArray) ("MainframeCore$Strings", 46, "MainframeCore$Instruction", "operation", "I", "MainframeCore") (by decide +kernel)
  refine lv_aload_n hx hb dX9_change_0 rfl (lv_at hl 0 rfl) ?_
  refine lv_iconst (v := 1) hx hb dX9_change_1 (by decide) ?_
  have hPc : va_P D vwCl (wX9_demandBoth cI cB a_st a_ins a_mc a_me a_ps a_by a_ks a_rg v_op v_i v_r v_s v_a v_b v_fault v_word v_kF) H := hP.sub [0, 1, 2, 3, 4, 6] rfl
  have hDc : va_D A (wX9_demandBoth cI cB a_st a_ins a_mc a_me a_ps a_by a_ks a_rg v_op v_i v_r v_s v_a v_b v_fault v_word v_kF) := hD.sub [0, 1, 2, 3, 4, 6] (by decide) rfl
  have hFc := va_free (wc := (wX9_demandBoth cI cB a_st a_ins a_mc a_me a_ps a_by a_ks a_rg v_op v_i v_r v_s v_a v_b v_fault v_word v_kF)) hD hS hA [0, 1, 2, 3, 4, 6] rfl
  refine va_calli (va_runV (As := [.int 1]) (rest := []) ⟨hx, hb, hml, hown, hts⟩ (kX9_demandBoth l D cI cB a_st a_ins a_mc a_me a_ps a_by a_ks a_rg H.size v_op v_i v_r v_s v_a v_b v_fault v_word v_kF 1) (cwV 1 hts (gd_V wd_461 wd_462 wd_463 wd_455 wd_460) rfl rfl rfl hdX9_demandBoth ⟨Nat.le_of_ble_eq_true rfl, Nat.le_of_ble_eq_true rfl⟩) (preV_std (ci := 9) (q0 := 0) hPc hK hDc hNW rfl rfl) rfl rfl hl.1 rfl (lv_room (Nat.le_of_ble_eq_true rfl)) dX9_change_2 ⟨Nat.zero_le _, Nat.zero_le _⟩) hS (fun q _ h => hFc q h) hFc (fun r_2 u_2 t9 H1 locs ht9 hvm9 hw9 hB9 hz9 hk9 hS => ?_)
  obtain ⟨er_2, eu_2⟩ := hw9
  obtain ⟨hP, hD⟩ := back_std (w1 := (wX9_demandBoth cI cB a_st a_ins a_mc a_me a_ps a_by a_ks a_rg v_op v_i v_r v_s v_a v_b u_2 v_word v_kF)) (w2 := (wX9_change cI cB a_st a_ins a_mc a_me a_ps a_by a_ks a_rg v_op v_i v_r v_s v_a v_b u_2 v_word v_bF v_kF)) (wr := [(a_by, .inl (cB, 8192, .inl v_bF))]) hP hD [0, 1, 2, 3, 4, 6] [5] [1, 2, 3, 4, 5, 0, 6] rfl rfl (by decide) (by decide) hk9 hFc hB9 ht9 (by decide) rfl
  clear hB9 hk9 hz9 hvm9 ht9 hFc hPc hDc
  generalize H1 = H at hP hS ⊢
  refine lv_istore_n (lv' := [(1, .int r_2), (0, .ref a_st)]) hx hb dX9_change_5 rfl hl (by decide) rfl (fun ls hl => ?_)
  refine lv_iconst (v := 0) hx hb dX9_change_6 (by decide) ?_
  refine lv_istore_n (lv' := [(2, .int 0), (1, .int r_2), (0, .ref a_st)]) hx hb dX9_change_7 rfl hl (by decide) rfl (fun ls hl => ?_)
  refine lv_iconst (v := 0) hx hb dX9_change_8 (by decide) ?_
  refine lv_istore_n (lv' := [(3, .int 0), (2, .int 0), (1, .int r_2), (0, .ref a_st)]) hx hb dX9_change_9 rfl hl (by decide) rfl (fun ls hl => ?_)
  obtain ⟨g_10, eg_10⟩ : ∃ z : ((Nat → Int32) × Int32 × Int32), z = LX9_change_10 v_op v_a v_b r_2 u_2 (msU r_2 0 + 1) (v_bF, 0, 0) := ⟨_, rfl⟩
  have K_10_0 : ∀ (H : Heap) (locs : List Loc), va_P D vwCl (wX9_change cI cB a_st a_ins a_mc a_me a_ps a_by a_ks a_rg v_op v_i v_r v_s v_a v_b u_2 v_word g_10.1 v_kF) H → va_D A (wX9_change cI cB a_st a_ins a_mc a_me a_ps a_by a_ks a_rg v_op v_i v_r v_s v_a v_b u_2 v_word g_10.1 v_kF) → va_S A s.heap H locs → ∀ (ls : Array Slot), lv_has ls 5 [(0, .ref a_st), (1, .int r_2), (2, .int g_10.2.1), (3, .int g_10.2.2)] → W p l e rmX9_change s m ([.ref a_st] : List Value).toArray below meth c H locs 0 0 (MQ below (qX9_change D cI cB a_st a_ins a_mc a_me a_ps a_by a_ks a_rg v_op v_i v_r v_s v_a v_b v_fault v_word v_bF v_kF A) ([.ref a_st] : List Value).toArray s 0 0 A) (F0 m 92 ls []) := by
    intro H locs hP hD hS ls hl
    refine lv_aload_n hx hb dX9_change_92 rfl (lv_at hl 0 rfl) ?_
    refine va_get (D := D) (ci := 9) (v := .ref a_mc) (C := RX9) (T := TX9) (N := 3) hx hb hts in_X9 hown hK hP 0 rfl rfl 0 (by decide) q_0 (fun _ h9 => h9) rfl dX9_change_93 ?_
    have hPc : va_P D vwCl (wX5_fine cI cB a_mc a_me a_ps a_rg u_2) H := hP.sub [2] rfl
    have hDc : va_D A (wX5_fine cI cB a_mc a_me a_ps a_rg u_2) := hD.sub [2] (by decide) rfl
    have hFc := va_free (wc := (wX5_fine cI cB a_mc a_me a_ps a_rg u_2)) hD hS hA [2] rfl
    refine va_calli (va_runV (As := []) (rest := []) ⟨hx, hb, hml, hown, hts⟩ (kX5_fine l D cI cB a_mc a_me a_ps a_rg H.size u_2 ) (cwV 0 hts (gd_V wd_439 wd_73 wd_74 wd_24 wd_66) rfl rfl rfl hdX5_fine ⟨Nat.le_of_ble_eq_true rfl, Nat.le_of_ble_eq_true rfl⟩) (preV_std (ci := 5) (q0 := 0) hPc hK hDc hNW rfl rfl) rfl rfl hl.1 rfl (lv_room (Nat.le_of_ble_eq_true rfl)) dX9_change_96 ⟨Nat.zero_le _, Nat.zero_le _⟩) hS (fun q _ h => hFc q h) hFc (fun r_96 u_96 t9 H1 locs ht9 hvm9 hw9 hB9 hz9 hk9 hS => ?_)
    have er_96 : r_96 = fX5_fine u_2 := hw9
    have zr_96 : r_96 = 0 ∨ r_96 = 1 := by rw [er_96]; exact zX5_fine _
    obtain ⟨hP, hD⟩ := back_std (w1 := (wX5_fine cI cB a_mc a_me a_ps a_rg u_2)) (w2 := (wX9_change cI cB a_st a_ins a_mc a_me a_ps a_by a_ks a_rg v_op v_i v_r v_s v_a v_b u_2 v_word g_10.1 v_kF)) (wr := [(a_st, .inr (9, [.ref a_mc, .ref a_ins, .ref a_me])), (a_ins, .inr (4, [.ref a_mc, .ref a_me, .int v_op, .int v_i, .int v_r, .int v_s, .int v_a, .int v_b])), (a_me, .inr (6, [.ref a_by, .ref a_ks])), (a_ps, .inr (7, [.long v_word])), (a_by, .inl (cB, 8192, .inl g_10.1)), (a_ks, .inl (cI, 4, .inl v_kF))]) hP hD [2] [0, 1, 3, 4, 5, 6] [0, 1, 6, 2, 3, 4, 5] rfl rfl (by decide) (by decide) hk9 hFc hB9 ht9 (by decide) rfl
    clear hB9 hk9 hz9 hvm9 ht9 hFc hPc hDc
    generalize H1 = H at hP hS ⊢
    refine lv_if_eq (tgt := 123) hx hb dX9_change_99 (by decide) (fun c_99 => ?_) (fun c_99 => ?_)
    · skip
      have hf9 : (u_2, v_word, g_10.1) = fX9_change v_op v_i v_a v_b v_fault v_word v_bF v_kF := by simp only [fX9_change, ← er_2, ← eu_2, ← eg_10, ← er_96, if_pos c_99]
      exact W.vret hx hb hr (fun t9 ht9 hW9 => ⟨⟨(u_2, v_word, g_10.1), rfl, hf9, ⟨by rw [ht9]; exact hP, va_K.moved hW9.alike hK, hD⟩⟩, hS.F ht9⟩) hS.2.2 dX9_change_123
    · skip
      refine lv_aload_n hx hb dX9_change_102 rfl (lv_at hl 0 rfl) ?_
      refine va_get (D := D) (ci := 9) (v := .ref a_ins) (C := RX9) (T := TX9) (N := 3) hx hb hts in_X9 hown hK hP 0 rfl rfl 1 (by decide) q_2 (fun _ h9 => h9) rfl dX9_change_103 ?_
      refine va_getN (D := D) (ci := 4) (v := .int v_op) (C := RX4) (T := TX4) (N := 8) hx hb hts in_X4 hown hK hP 1 rfl rfl 2 (by decide) n_2 (fun _ h9 => h9) rfl dX9_change_106 ?_
      refine lv_sipush (v := 212) hx hb dX9_change_109 (by decide) ?_
      refine lv_icmp_lt (tgt := 123) hx hb dX9_change_112 (by decide) (fun c_112 => ?_) (fun c_112 => ?_)
      · skip
        have hf9 : (u_2, v_word, g_10.1) = fX9_change v_op v_i v_a v_b v_fault v_word v_bF v_kF := by simp only [fX9_change, ← er_2, ← eu_2, ← eg_10, ← er_96, if_neg c_99, if_pos c_112]
        exact W.vret hx hb hr (fun t9 ht9 hW9 => ⟨⟨(u_2, v_word, g_10.1), rfl, hf9, ⟨by rw [ht9]; exact hP, va_K.moved hW9.alike hK, hD⟩⟩, hS.F ht9⟩) hS.2.2 dX9_change_123
      · skip
        refine lv_aload_n hx hb dX9_change_115 rfl (lv_at hl 0 rfl) ?_
        refine va_get (D := D) (ci := 9) (v := .ref a_mc) (C := RX9) (T := TX9) (N := 3) hx hb hts in_X9 hown hK hP 0 rfl rfl 0 (by decide) q_0 (fun _ h9 => h9) rfl dX9_change_116 ?_
        refine lv_iload_n hx hb dX9_change_119 rfl (lv_at hl 2 rfl) ?_
        have hPc : va_P D vwCl (wX5_conditionByBits cI cB a_mc a_me a_ps a_rg u_2 v_word) H := hP.sub [2, 4] rfl
        have hDc : va_D A (wX5_conditionByBits cI cB a_mc a_me a_ps a_rg u_2 v_word) := hD.sub [2, 4] (by decide) rfl
        have hFc := va_free (wc := (wX5_conditionByBits cI cB a_mc a_me a_ps a_rg u_2 v_word)) hD hS hA [2, 4] rfl
        refine va_callv (va_runV (As := [.int g_10.2.1]) (rest := []) ⟨hx, hb, hml, hown, hts⟩ (kX5_conditionByBits l D cI cB a_mc a_me a_ps a_rg H.size u_2 v_word g_10.2.1) (cwV 1 hts (gd_V wd_449 wd_450 wd_451 wd_24 wd_377) rfl rfl rfl hdX5_conditionByBits ⟨Nat.le_of_ble_eq_true rfl, Nat.le_of_ble_eq_true rfl⟩) (preV_std (ci := 5) (q0 := 0) hPc hK hDc hNW rfl rfl) rfl rfl hl.1 rfl (lv_room (Nat.le_of_ble_eq_true rfl)) dX9_change_120 ⟨Nat.zero_le _, Nat.zero_le _⟩) hS (fun q _ h => hFc q h) hFc (fun u_120 t9 H1 locs ht9 hvm9 hw9 hB9 hz9 hk9 hS => ?_)
        have eu_120 : u_120 = fX5_conditionByBits g_10.2.1 v_word := hw9
        obtain ⟨hP, hD⟩ := back_std (w1 := (wX5_conditionByBits cI cB a_mc a_me a_ps a_rg u_2 u_120)) (w2 := (wX9_change cI cB a_st a_ins a_mc a_me a_ps a_by a_ks a_rg v_op v_i v_r v_s v_a v_b u_2 u_120 g_10.1 v_kF)) (wr := [(a_st, .inr (9, [.ref a_mc, .ref a_ins, .ref a_me])), (a_ins, .inr (4, [.ref a_mc, .ref a_me, .int v_op, .int v_i, .int v_r, .int v_s, .int v_a, .int v_b])), (a_me, .inr (6, [.ref a_by, .ref a_ks])), (a_by, .inl (cB, 8192, .inl g_10.1)), (a_ks, .inl (cI, 4, .inl v_kF))]) hP hD [2, 4] [0, 1, 3, 5, 6] [0, 1, 5, 2, 6, 3, 4] rfl rfl (by decide) (by decide) hk9 hFc hB9 ht9 (by decide) rfl
        clear hB9 hk9 hz9 hvm9 ht9 hFc hPc hDc
        generalize H1 = H at hP hS ⊢
        have hf9 : (u_2, u_120, g_10.1) = fX9_change v_op v_i v_a v_b v_fault v_word v_bF v_kF := by simp only [fX9_change, ← er_2, ← eu_2, ← eg_10, ← er_96, ← eu_120, if_neg c_99, if_neg c_112]
        exact W.vret hx hb hr (fun t9 ht9 hW9 => ⟨⟨(u_2, u_120, g_10.1), rfl, hf9, ⟨by rw [ht9]; exact hP, va_K.moved hW9.alike hK, hD⟩⟩, hS.F ht9⟩) hS.2.2 dX9_change_123
  have lp_10 : ∀ (n9 : Nat) (w_10 : ((Nat → Int32) × Int32 × Int32)), msU r_2 w_10.2.2 < n9 → LX9_change_10 v_op v_a v_b r_2 u_2 n9 w_10 = g_10 → ∀ (H : Heap) (locs : List Loc), va_P D vwCl (wX9_change cI cB a_st a_ins a_mc a_me a_ps a_by a_ks a_rg v_op v_i v_r v_s v_a v_b u_2 v_word w_10.1 v_kF) H → va_D A (wX9_change cI cB a_st a_ins a_mc a_me a_ps a_by a_ks a_rg v_op v_i v_r v_s v_a v_b u_2 v_word w_10.1 v_kF) → va_S A s.heap H locs → ∀ (ls : Array Slot), lv_has ls 5 [(0, .ref a_st), (1, .int r_2), (2, .int w_10.2.1), (3, .int w_10.2.2)] → W p l e rmX9_change s m ([.ref a_st] : List Value).toArray below meth c H locs 0 0 (MQ below (qX9_change D cI cB a_st a_ins a_mc a_me a_ps a_by a_ks a_rg v_op v_i v_r v_s v_a v_b v_fault v_word v_bF v_kF A) ([.ref a_st] : List Value).toArray s 0 0 A) (F0 m 10 ls []) := by
    intro n9
    induction n9 with
    | zero => intro w_10 hm9; exact absurd hm9 (Nat.not_lt_zero _)
    | succ n9 ih =>
      intro w_10 hm9 hL9 H locs hP hD hS ls hl
      refine lv_iload_n hx hb dX9_change_10 rfl (lv_at hl 3 rfl) ?_
      refine lv_iload_n hx hb dX9_change_11 rfl (lv_at hl 1 rfl) ?_
      refine lv_icmp_ge (tgt := 92) hx hb dX9_change_12 (by decide) (fun c_12 => ?_) (fun c_12 => ?_)
      · skip
        have hg9 : (w_10.1, w_10.2.1, w_10.2.2) = g_10 := by rw [← hL9]; simp only [LX9_change_10, if_pos c_12]
        subst hg9
        exact K_10_0 _ _ hP hD hS ls (lv_sub hl [0, 1, 2, 3] rfl)
      · skip
        refine lv_aload_n hx hb dX9_change_15 rfl (lv_at hl 0 rfl) ?_
        refine va_get (D := D) (ci := 9) (v := .ref a_mc) (C := RX9) (T := TX9) (N := 3) hx hb hts in_X9 hown hK hP 0 rfl rfl 0 (by decide) q_0 (fun _ h9 => h9) rfl dX9_change_16 ?_
        have hPc : va_P D vwCl (wX5_fine cI cB a_mc a_me a_ps a_rg u_2) H := hP.sub [2] rfl
        have hDc : va_D A (wX5_fine cI cB a_mc a_me a_ps a_rg u_2) := hD.sub [2] (by decide) rfl
        have hFc := va_free (wc := (wX5_fine cI cB a_mc a_me a_ps a_rg u_2)) hD hS hA [2] rfl
        refine va_calli (va_runV (As := []) (rest := []) ⟨hx, hb, hml, hown, hts⟩ (kX5_fine l D cI cB a_mc a_me a_ps a_rg H.size u_2 ) (cwV 0 hts (gd_V wd_439 wd_73 wd_74 wd_24 wd_66) rfl rfl rfl hdX5_fine ⟨Nat.le_of_ble_eq_true rfl, Nat.le_of_ble_eq_true rfl⟩) (preV_std (ci := 5) (q0 := 0) hPc hK hDc hNW rfl rfl) rfl rfl hl.1 rfl (lv_room (Nat.le_of_ble_eq_true rfl)) dX9_change_19 ⟨Nat.zero_le _, Nat.zero_le _⟩) hS (fun q _ h => hFc q h) hFc (fun r_19 u_19 t9 H1 locs ht9 hvm9 hw9 hB9 hz9 hk9 hS => ?_)
        have er_19 : r_19 = fX5_fine u_2 := hw9
        have zr_19 : r_19 = 0 ∨ r_19 = 1 := by rw [er_19]; exact zX5_fine _
        obtain ⟨hP, hD⟩ := back_std (w1 := (wX5_fine cI cB a_mc a_me a_ps a_rg u_2)) (w2 := (wX9_change cI cB a_st a_ins a_mc a_me a_ps a_by a_ks a_rg v_op v_i v_r v_s v_a v_b u_2 v_word w_10.1 v_kF)) (wr := [(a_st, .inr (9, [.ref a_mc, .ref a_ins, .ref a_me])), (a_ins, .inr (4, [.ref a_mc, .ref a_me, .int v_op, .int v_i, .int v_r, .int v_s, .int v_a, .int v_b])), (a_me, .inr (6, [.ref a_by, .ref a_ks])), (a_ps, .inr (7, [.long v_word])), (a_by, .inl (cB, 8192, .inl w_10.1)), (a_ks, .inl (cI, 4, .inl v_kF))]) hP hD [2] [0, 1, 3, 4, 5, 6] [0, 1, 6, 2, 3, 4, 5] rfl rfl (by decide) (by decide) hk9 hFc hB9 ht9 (by decide) rfl
        clear hB9 hk9 hz9 hvm9 ht9 hFc hPc hDc
        generalize H1 = H at hP hS ⊢
        refine lv_if_eq (tgt := 92) hx hb dX9_change_22 (by decide) (fun c_22 => ?_) (fun c_22 => ?_)
        · skip
          have hg9 : (w_10.1, w_10.2.1, w_10.2.2) = g_10 := by rw [← hL9]; simp only [LX9_change_10, ← er_19, if_neg c_12, if_pos c_22]
          subst hg9
          exact K_10_0 _ _ hP hD hS ls (lv_sub hl [0, 1, 2, 3] rfl)
        · skip
          refine lv_aload_n hx hb dX9_change_25 rfl (lv_at hl 0 rfl) ?_
          refine lv_aload_n hx hb dX9_change_26 rfl (lv_at hl 0 rfl) ?_
          refine va_get (D := D) (ci := 9) (v := .ref a_me) (C := RX9) (T := TX9) (N := 3) hx hb hts in_X9 hown hK hP 0 rfl rfl 2 (by decide) q_1 (fun _ h9 => h9) rfl dX9_change_27 ?_
          refine lv_aload_n hx hb dX9_change_30 rfl (lv_at hl 0 rfl) ?_
          refine va_get (D := D) (ci := 9) (v := .ref a_ins) (C := RX9) (T := TX9) (N := 3) hx hb hts in_X9 hown hK hP 0 rfl rfl 1 (by decide) q_2 (fun _ h9 => h9) rfl dX9_change_31 ?_
          refine va_getN (D := D) (ci := 4) (v := .int v_a) (C := RX4) (T := TX4) (N := 8) hx hb hts in_X4 hown hK hP 1 rfl rfl 6 (by decide) n_0 (fun _ h9 => h9) rfl dX9_change_34 ?_
          refine lv_iload_n hx hb dX9_change_37 rfl (lv_at hl 3 rfl) ?_
          refine lv_iadd hx hb dX9_change_38 ?_
          have hPc : va_P D vwCl (wX6_get cI cB a_me a_by a_ks w_10.1) H := hP.sub [3, 5] rfl
          have hDc : va_D A (wX6_get cI cB a_me a_by a_ks w_10.1) := hD.sub [3, 5] (by decide) rfl
          have hFc := va_free (wc := (wX6_get cI cB a_me a_by a_ks w_10.1)) hD hS hA [3, 5] rfl
          refine va_calli (va_runV (As := [.int (v_a + w_10.2.2)]) (rest := [.ref a_st]) ⟨hx, hb, hml, hown, hts⟩ (kX6_get l D cI cB a_me a_by a_ks H.size w_10.1 (v_a + w_10.2.2)) (cwV 1 hts (gd_V wd_440 wd_109 wd_110 wd_78 wd_102) rfl rfl rfl hdX6_get ⟨Nat.le_of_ble_eq_true rfl, Nat.le_of_ble_eq_true rfl⟩) (preV_std (ci := 6) (q0 := 0) hPc hK hDc hNW rfl rfl) rfl rfl hl.1 rfl (lv_room (Nat.le_of_ble_eq_true rfl)) dX9_change_39 ⟨Nat.zero_le _, Nat.zero_le _⟩) hS (fun q _ h => hFc q h) hFc (fun r_39 u_39 t9 H1 locs ht9 hvm9 hw9 hB9 hz9 hk9 hS => ?_)
          have er_39 : r_39 = fX6_get (v_a + w_10.2.2) w_10.1 := hw9
          obtain ⟨hP, hD⟩ := back_std (w1 := (wX6_get cI cB a_me a_by a_ks w_10.1)) (w2 := (wX9_change cI cB a_st a_ins a_mc a_me a_ps a_by a_ks a_rg v_op v_i v_r v_s v_a v_b u_2 v_word w_10.1 v_kF)) (wr := [(a_st, .inr (9, [.ref a_mc, .ref a_ins, .ref a_me])), (a_ins, .inr (4, [.ref a_mc, .ref a_me, .int v_op, .int v_i, .int v_r, .int v_s, .int v_a, .int v_b])), (a_mc, .inr (5, [.ref a_me, .ref a_ps, .ref a_rg, .int u_2])), (a_ps, .inr (7, [.long v_word])), (a_ks, .inl (cI, 4, .inl v_kF))]) hP hD [3, 5] [0, 1, 2, 4, 6] [0, 1, 2, 5, 3, 6, 4] rfl rfl (by decide) (by decide) hk9 hFc hB9 ht9 (by decide) rfl
          clear hB9 hk9 hz9 hvm9 ht9 hFc hPc hDc
          generalize H1 = H at hP hS ⊢
          refine lv_aload_n hx hb dX9_change_42 rfl (lv_at hl 0 rfl) ?_
          refine va_get (D := D) (ci := 9) (v := .ref a_me) (C := RX9) (T := TX9) (N := 3) hx hb hts in_X9 hown hK hP 0 rfl rfl 2 (by decide) q_1 (fun _ h9 => h9) rfl dX9_change_43 ?_
          refine lv_aload_n hx hb dX9_change_46 rfl (lv_at hl 0 rfl) ?_
          refine va_get (D := D) (ci := 9) (v := .ref a_ins) (C := RX9) (T := TX9) (N := 3) hx hb hts in_X9 hown hK hP 0 rfl rfl 1 (by decide) q_2 (fun _ h9 => h9) rfl dX9_change_47 ?_
          refine va_getN (D := D) (ci := 4) (v := .int v_b) (C := RX4) (T := TX4) (N := 8) hx hb hts in_X4 hown hK hP 1 rfl rfl 7 (by decide) n_1 (fun _ h9 => h9) rfl dX9_change_50 ?_
          refine lv_iload_n hx hb dX9_change_53 rfl (lv_at hl 3 rfl) ?_
          refine lv_iadd hx hb dX9_change_54 ?_
          have hPc : va_P D vwCl (wX6_get cI cB a_me a_by a_ks w_10.1) H := hP.sub [3, 5] rfl
          have hDc : va_D A (wX6_get cI cB a_me a_by a_ks w_10.1) := hD.sub [3, 5] (by decide) rfl
          have hFc := va_free (wc := (wX6_get cI cB a_me a_by a_ks w_10.1)) hD hS hA [3, 5] rfl
          refine va_calli (va_runV (As := [.int (v_b + w_10.2.2)]) (rest := [.int r_39, .ref a_st]) ⟨hx, hb, hml, hown, hts⟩ (kX6_get l D cI cB a_me a_by a_ks H.size w_10.1 (v_b + w_10.2.2)) (cwV 1 hts (gd_V wd_440 wd_109 wd_110 wd_78 wd_102) rfl rfl rfl hdX6_get ⟨Nat.le_of_ble_eq_true rfl, Nat.le_of_ble_eq_true rfl⟩) (preV_std (ci := 6) (q0 := 0) hPc hK hDc hNW rfl rfl) rfl rfl hl.1 rfl (lv_room (Nat.le_of_ble_eq_true rfl)) dX9_change_55 ⟨Nat.zero_le _, Nat.zero_le _⟩) hS (fun q _ h => hFc q h) hFc (fun r_55 u_55 t9 H1 locs ht9 hvm9 hw9 hB9 hz9 hk9 hS => ?_)
          have er_55 : r_55 = fX6_get (v_b + w_10.2.2) w_10.1 := hw9
          obtain ⟨hP, hD⟩ := back_std (w1 := (wX6_get cI cB a_me a_by a_ks w_10.1)) (w2 := (wX9_change cI cB a_st a_ins a_mc a_me a_ps a_by a_ks a_rg v_op v_i v_r v_s v_a v_b u_2 v_word w_10.1 v_kF)) (wr := [(a_st, .inr (9, [.ref a_mc, .ref a_ins, .ref a_me])), (a_ins, .inr (4, [.ref a_mc, .ref a_me, .int v_op, .int v_i, .int v_r, .int v_s, .int v_a, .int v_b])), (a_mc, .inr (5, [.ref a_me, .ref a_ps, .ref a_rg, .int u_2])), (a_ps, .inr (7, [.long v_word])), (a_ks, .inl (cI, 4, .inl v_kF))]) hP hD [3, 5] [0, 1, 2, 4, 6] [0, 1, 2, 5, 3, 6, 4] rfl rfl (by decide) (by decide) hk9 hFc hB9 ht9 (by decide) rfl
          clear hB9 hk9 hz9 hvm9 ht9 hFc hPc hDc
          generalize H1 = H at hP hS ⊢
          have hPc : va_P D vwCl (wX9_joined cI cB a_st a_ins a_mc a_me v_op v_i v_r v_s v_a v_b) H := hP.sub [0, 1] rfl
          have hDc : va_D A (wX9_joined cI cB a_st a_ins a_mc a_me v_op v_i v_r v_s v_a v_b) := hD.sub [0, 1] (by decide) rfl
          have hFc := va_free (wc := (wX9_joined cI cB a_st a_ins a_mc a_me v_op v_i v_r v_s v_a v_b)) hD hS hA [0, 1] rfl
          refine va_calli (va_runV (As := [.int r_39, .int r_55]) (rest := []) ⟨hx, hb, hml, hown, hts⟩ (kX9_joined l D cI cB a_st a_ins a_mc a_me H.size v_op v_i v_r v_s v_a v_b r_39 r_55) (cwV 2 hts (gd_V wd_466 wd_467 wd_468 wd_455 wd_465) rfl rfl rfl hdX9_joined ⟨Nat.le_of_ble_eq_true rfl, Nat.le_of_ble_eq_true rfl⟩) (preV_std (ci := 9) (q0 := 0) hPc hK hDc hNW rfl rfl) rfl rfl hl.1 rfl (lv_room (Nat.le_of_ble_eq_true rfl)) dX9_change_58 ⟨Nat.zero_le _, Nat.zero_le _⟩) hS (fun q _ h => hFc q h) hFc (fun r_58 u_58 t9 H1 locs ht9 hvm9 hw9 hB9 hz9 hk9 hS => ?_)
          have er_58 : r_58 = fX9_joined r_39 r_55 v_op := hw9
          obtain ⟨hP, hD⟩ := back_std (w1 := (wX9_joined cI cB a_st a_ins a_mc a_me v_op v_i v_r v_s v_a v_b)) (w2 := (wX9_change cI cB a_st a_ins a_mc a_me a_ps a_by a_ks a_rg v_op v_i v_r v_s v_a v_b u_2 v_word w_10.1 v_kF)) (wr := [(a_mc, .inr (5, [.ref a_me, .ref a_ps, .ref a_rg, .int u_2])), (a_me, .inr (6, [.ref a_by, .ref a_ks])), (a_ps, .inr (7, [.long v_word])), (a_by, .inl (cB, 8192, .inl w_10.1)), (a_ks, .inl (cI, 4, .inl v_kF))]) hP hD [0, 1] [2, 3, 4, 5, 6] [5, 6, 0, 1, 2, 3, 4] rfl rfl (by decide) (by decide) hk9 hFc hB9 ht9 (by decide) rfl
          clear hB9 hk9 hz9 hvm9 ht9 hFc hPc hDc
          generalize H1 = H at hP hS ⊢
          refine lv_istore (lv' := [(4, .int r_58), (0, .ref a_st), (1, .int r_2), (2, .int w_10.2.1), (3, .int w_10.2.2)]) hx hb dX9_change_61 hl (by decide) rfl (fun ls hl => ?_)
          refine lv_aload_n hx hb dX9_change_63 rfl (lv_at hl 1 rfl) ?_
          refine va_get (D := D) (ci := 9) (v := .ref a_me) (C := RX9) (T := TX9) (N := 3) hx hb hts in_X9 hown hK hP 0 rfl rfl 2 (by decide) q_1 (fun _ h9 => h9) rfl dX9_change_64 ?_
          refine lv_aload_n hx hb dX9_change_67 rfl (lv_at hl 1 rfl) ?_
          refine va_get (D := D) (ci := 9) (v := .ref a_ins) (C := RX9) (T := TX9) (N := 3) hx hb hts in_X9 hown hK hP 0 rfl rfl 1 (by decide) q_2 (fun _ h9 => h9) rfl dX9_change_68 ?_
          refine va_getN (D := D) (ci := 4) (v := .int v_a) (C := RX4) (T := TX4) (N := 8) hx hb hts in_X4 hown hK hP 1 rfl rfl 6 (by decide) n_0 (fun _ h9 => h9) rfl dX9_change_71 ?_
          refine lv_iload_n hx hb dX9_change_74 rfl (lv_at hl 4 rfl) ?_
          refine lv_iadd hx hb dX9_change_75 ?_
          refine lv_iload hx hb dX9_change_76 (lv_at hl 0 rfl) ?_
          have hPc : va_P D vwCl (wX6_set cI cB a_me a_by a_ks w_10.1) H := hP.sub [3, 5] rfl
          have hDc : va_D A (wX6_set cI cB a_me a_by a_ks w_10.1) := hD.sub [3, 5] (by decide) rfl
          have hFc := va_free (wc := (wX6_set cI cB a_me a_by a_ks w_10.1)) hD hS hA [3, 5] rfl
          refine va_callv (va_runV (As := [.int (v_a + w_10.2.2), .int r_58]) (rest := []) ⟨hx, hb, hml, hown, hts⟩ (kX6_set l D cI cB a_me a_by a_ks H.size w_10.1 (v_a + w_10.2.2) r_58) (cwV 2 hts (gd_V wd_447 wd_151 wd_152 wd_78 wd_145) rfl rfl rfl hdX6_set ⟨Nat.le_of_ble_eq_true rfl, Nat.le_of_ble_eq_true rfl⟩) (preV_std (ci := 6) (q0 := 0) hPc hK hDc hNW rfl rfl) rfl rfl hl.1 rfl (lv_room (Nat.le_of_ble_eq_true rfl)) dX9_change_78 ⟨Nat.zero_le _, Nat.zero_le _⟩) hS (fun q _ h => hFc q h) hFc (fun u_78 t9 H1 locs ht9 hvm9 hw9 hB9 hz9 hk9 hS => ?_)
          have eu_78 : u_78 = fX6_set (v_a + w_10.2.2) r_58 w_10.1 := hw9
          obtain ⟨hP, hD⟩ := back_std (w1 := (wX6_set cI cB a_me a_by a_ks u_78)) (w2 := (wX9_change cI cB a_st a_ins a_mc a_me a_ps a_by a_ks a_rg v_op v_i v_r v_s v_a v_b u_2 v_word u_78 v_kF)) (wr := [(a_st, .inr (9, [.ref a_mc, .ref a_ins, .ref a_me])), (a_ins, .inr (4, [.ref a_mc, .ref a_me, .int v_op, .int v_i, .int v_r, .int v_s, .int v_a, .int v_b])), (a_mc, .inr (5, [.ref a_me, .ref a_ps, .ref a_rg, .int u_2])), (a_ps, .inr (7, [.long v_word])), (a_ks, .inl (cI, 4, .inl v_kF))]) hP hD [3, 5] [0, 1, 2, 4, 6] [0, 1, 2, 5, 3, 6, 4] rfl rfl (by decide) (by decide) hk9 hFc hB9 ht9 (by decide) rfl
          clear hB9 hk9 hz9 hvm9 ht9 hFc hPc hDc
          generalize H1 = H at hP hS ⊢
          refine lv_iload_n hx hb dX9_change_81 rfl (lv_at hl 3 rfl) ?_
          refine lv_iload hx hb dX9_change_82 (lv_at hl 0 rfl) ?_
          refine lv_ior hx hb dX9_change_84 ?_
          refine lv_topi (fun x_85 ex_85 => ?_)
          refine lv_istore_n (lv' := [(2, .int x_85), (4, .int r_58), (0, .ref a_st), (1, .int r_2), (3, .int w_10.2.2)]) hx hb dX9_change_85 rfl hl (by decide) rfl (fun ls hl => ?_)
          obtain ⟨x_86, ex_86⟩ : ∃ z : Int32, z = w_10.2.2 + 1 := ⟨_, rfl⟩
          refine lv_iinc (v := x_86) (lv' := [(3, .int x_86), (2, .int x_85), (4, .int r_58), (0, .ref a_st), (1, .int r_2)]) hx hb dX9_change_86 hl (k := 4) rfl (by rw [ex_86]; rfl) (by decide) rfl (fun ls hl => ?_)
          refine lv_goto (tgt := 10) hx hb dX9_change_89 (by decide) ?_
          exact ih (u_78, x_85, x_86) (by subst ex_86; subst ex_85; subst eu_78; subst er_58; subst er_55; subst er_39; subst er_19;  exact Nat.lt_of_lt_of_le (ms_up c_12) (Nat.le_of_lt_succ hm9)) (by rw [← hL9]; subst ex_86; subst ex_85; simp only [LX9_change_10, ← er_19, ← er_39, ← er_55, ← er_58, ← eu_78, if_neg c_12, if_neg c_22]) _ _ hP hD hS ls (lv_sub hl [3, 4, 1, 0] rfl)
  exact lp_10 (msU r_2 0 + 1) (v_bF, 0, 0) (Nat.lt_succ_self _) eg_10.symm _ _ hP hD hS ls (lv_sub hl [3, 2, 1, 0] rfl)
theorem hdX9_change : yX9_change.cls = RX9 ∧ yX9_change.cls ≠ "java/lang/invoke/MethodHandle" ∧ yX9_change.cls ≠ "java/lang/invoke/VarHandle" ∧ (parseMethodDescriptor yX9_change.desc).map (fun d => d.parameters.length) = some 0 := by decide +kernel
noncomputable def fX9_toldBy (x0 : Int32) (v_b : Int32) (v_bF : (Nat → Int32)) : Int32 :=
  let r_12 := fX6_get x0 v_bF
  ((v_b + r_12) &&& 16777215)
abbrev wX9_toldBy (cI cB : ClassId) (a_st a_ins a_mc a_me a_by a_ks : Nat) (v_op : Int32) (v_i : Int32) (v_r : Int32) (v_s : Int32) (v_a : Int32) (v_b : Int32) (v_bF : (Nat → Int32)) : va_W := [(a_st, .inr (9, [.ref a_mc, .ref a_ins, .ref a_me])), (a_ins, .inr (4, [.ref a_mc, .ref a_me, .int v_op, .int v_i, .int v_r, .int v_s, .int v_a, .int v_b])), (a_me, .inr (6, [.ref a_by, .ref a_ks])), (a_by, .inl (cB, 8192, .inl v_bF))]
abbrev rmX9_toldBy : Room := { frames := 1, cells := 0, slots := 0, locals := 21 }
abbrev qX9_toldBy (D : va_G) (cI cB : ClassId) (a_st a_ins a_mc a_me a_by a_ks : Nat) (v_op : Int32) (v_i : Int32) (v_r : Int32) (v_s : Int32) (v_a : Int32) (v_b : Int32) (v_bF : (Nat → Int32)) (x0 : Int32) : (Nat → Prop) → Array Value → State → Outcome → State → Prop := fun A9 => va_Qi (fun (r9 : Int32) (u9 : Unit) => r9 = fX9_toldBy x0 v_b v_bF) (fun u9 t9 => atW D (TYS cI cB) A9 (wX9_toldBy cI cB a_st a_ins a_mc a_me a_by a_ks v_op v_i v_r v_s v_a v_b v_bF) t9) A9
set_option maxHeartbeats 4000000 in
set_option maxRecDepth 100000 in
theorem kX9_toldBy (l : Launch) (D : va_G) (cI cB : ClassId) (a_st a_ins a_mc a_me a_by a_ks : Nat) (sz : Nat) (v_op : Int32) (v_i : Int32) (v_r : Int32) (v_s : Int32) (v_a : Int32) (v_b : Int32) (v_bF : (Nat → Int32)) (x0 : Int32) : MetW l yX9_toldBy (WK yX9_toldBy cX9_toldBy 2 (some .int)) rmX9_toldBy D (TYS cI cB) (wX9_toldBy cI cB a_st a_ins a_mc a_me a_by a_ks v_op v_i v_r v_s v_a v_b v_bF) sz [.ref a_st, .int x0] (qX9_toldBy D cI cB a_st a_ins a_mc a_me a_by a_ks v_op v_i v_r v_s v_a v_b v_bF x0) 0 0 := by
  refine met_std (by decide) rfl (Nat.le_of_ble_eq_true rfl) ?_
  intro p e s m below meth c A ls H hx hb hr hml hown hts hlocks hA hP hK hD hS hNW hl
  have hl : lv_has ls 2 [(0, .ref a_st), (1, .int x0)] := hl
  have q_0 := hts _ (List.mem_cons_of_mem _ wd_436)
  have q_1 := hts _ (List.mem_cons_of_mem _ wd_437)
  have q_2 := hts _ (List.mem_cons_of_mem _ wd_471)
  have n_0 := hNW.f (A := ([.ref a_st, .int x0] : List Value).toArray) ("MainframeCore$Strings", 83, "MainframeCore$Instruction", "b", "I", "MainframeCore") (by decide +kernel)
  refine lv_aload_n hx hb dX9_toldBy_0 rfl (lv_at hl 0 rfl) ?_
  refine va_get (D := D) (ci := 9) (v := .ref a_ins) (C := RX9) (T := TX9) (N := 3) hx hb hts in_X9 hown hK hP 0 rfl rfl 1 (by decide) q_0 (fun _ h9 => h9) rfl dX9_toldBy_1 ?_
  refine va_getN (D := D) (ci := 4) (v := .int v_b) (C := RX4) (T := TX4) (N := 8) hx hb hts in_X4 hown hK hP 1 rfl rfl 7 (by decide) n_0 (fun _ h9 => h9) rfl dX9_toldBy_4 ?_
  refine lv_aload_n hx hb dX9_toldBy_7 rfl (lv_at hl 0 rfl) ?_
  refine va_get (D := D) (ci := 9) (v := .ref a_me) (C := RX9) (T := TX9) (N := 3) hx hb hts in_X9 hown hK hP 0 rfl rfl 2 (by decide) q_1 (fun _ h9 => h9) rfl dX9_toldBy_8 ?_
  refine lv_iload_n hx hb dX9_toldBy_11 rfl (lv_at hl 1 rfl) ?_
  have hPc : va_P D vwCl (wX6_get cI cB a_me a_by a_ks v_bF) H := hP.sub [2, 3] rfl
  have hDc : va_D A (wX6_get cI cB a_me a_by a_ks v_bF) := hD.sub [2, 3] (by decide) rfl
  have hFc := va_free (wc := (wX6_get cI cB a_me a_by a_ks v_bF)) hD hS hA [2, 3] rfl
  refine va_calli (va_runV (As := [.int x0]) (rest := [.int v_b]) ⟨hx, hb, hml, hown, hts⟩ (kX6_get l D cI cB a_me a_by a_ks H.size v_bF x0) (cwV 1 hts (gd_V wd_440 wd_109 wd_110 wd_78 wd_102) rfl rfl rfl hdX6_get ⟨Nat.le_of_ble_eq_true rfl, Nat.le_of_ble_eq_true rfl⟩) (preV_std (ci := 6) (q0 := 0) hPc hK hDc hNW rfl rfl) rfl rfl hl.1 rfl (lv_room (Nat.le_of_ble_eq_true rfl)) dX9_toldBy_12 ⟨Nat.zero_le _, Nat.zero_le _⟩) hS (fun q _ h => hFc q h) hFc (fun r_12 u_12 t9 H1 locs ht9 hvm9 hw9 hB9 hz9 hk9 hS => ?_)
  have er_12 : r_12 = fX6_get x0 v_bF := hw9
  obtain ⟨hP, hD⟩ := back_std (w1 := (wX6_get cI cB a_me a_by a_ks v_bF)) (w2 := (wX9_toldBy cI cB a_st a_ins a_mc a_me a_by a_ks v_op v_i v_r v_s v_a v_b v_bF)) (wr := [(a_st, .inr (9, [.ref a_mc, .ref a_ins, .ref a_me])), (a_ins, .inr (4, [.ref a_mc, .ref a_me, .int v_op, .int v_i, .int v_r, .int v_s, .int v_a, .int v_b]))]) hP hD [2, 3] [0, 1] [0, 1, 2, 3] rfl rfl (by decide) (by decide) hk9 hFc hB9 ht9 (by decide) rfl
  clear hB9 hk9 hz9 hvm9 ht9 hFc hPc hDc
  generalize H1 = H at hP hS ⊢
  refine lv_iadd hx hb dX9_toldBy_15 ?_
  refine lv_ldc (v := 16777215) hx hb hown q_2 dX9_toldBy_16 ?_
  refine lv_iand hx hb dX9_toldBy_18 ?_
  have hf9 : ((v_b + r_12) &&& 16777215) = fX9_toldBy x0 v_b v_bF := by simp only [fX9_toldBy, ← er_12]
  exact W.iret hx hb hr (fun t9 ht9 hW9 => ⟨⟨((v_b + r_12) &&& 16777215), (), rfl, hf9, ⟨by rw [ht9]; exact hP, va_K.moved hW9.alike hK, hD⟩⟩, hS.F ht9⟩) hS.2.2 dX9_toldBy_19
theorem hdX9_toldBy : yX9_toldBy.cls = RX9 ∧ yX9_toldBy.cls ≠ "java/lang/invoke/MethodHandle" ∧ yX9_toldBy.cls ≠ "java/lang/invoke/VarHandle" ∧ (parseMethodDescriptor yX9_toldBy.desc).map (fun d => d.parameters.length) = some 1 := by decide +kernel
noncomputable def LX9_demandTold_28 (v_word : Int64) (v_a : Int32) (v_b : Int32) (v_bF : (Nat → Int32)) (v_kF : (Nat → Int32)) (x_9 : Int32) : Nat → (Int32 × Int32) → (Int32 × Int32)
  | 0, w_28 => w_28
  | n9 + 1, w_28 =>
    if x_9 ≤ w_28.2 then ((w_28.1, w_28.2)) else (let x_45 := ((v_a + w_28.2) &&& 16777215); let m_70 : Int32 := (if 8192 ≤ x_45 then (w_28.1) else (let r_62 := fX9_toldBy x_45 v_b v_bF; let u_67 := fX5_demand r_62 1 0 w_28.1 v_word v_kF; u_67)); let x_70 := w_28.2 + 1; LX9_demandTold_28 v_word v_a v_b v_bF v_kF x_9 n9 (m_70, x_70))
noncomputable def fX9_demandTold (x0 : Int32) (v_i : Int32) (v_a : Int32) (v_b : Int32) (v_fault : Int32) (v_word : Int64) (v_bF : (Nat → Int32)) (v_kF : (Nat → Int32)) : (Int32 × Int32) :=
  let x_9 := (v_i + 1)
  let u_23 := fX5_demand v_a x_9 x0 v_fault v_word v_kF
  let g_28 := LX9_demandTold_28 v_word v_a v_b v_bF v_kF x_9 (msU x_9 0 + 1) (u_23, 0)
  (x_9, g_28.1)
abbrev wX9_demandTold (cI cB : ClassId) (a_st a_ins a_mc a_me a_ps a_by a_ks a_rg : Nat) (v_op : Int32) (v_i : Int32) (v_r : Int32) (v_s : Int32) (v_a : Int32) (v_b : Int32) (v_fault : Int32) (v_word : Int64) (v_bF : (Nat → Int32)) (v_kF : (Nat → Int32)) : va_W := [(a_st, .inr (9, [.ref a_mc, .ref a_ins, .ref a_me])), (a_ins, .inr (4, [.ref a_mc, .ref a_me, .int v_op, .int v_i, .int v_r, .int v_s, .int v_a, .int v_b])), (a_mc, .inr (5, [.ref a_me, .ref a_ps, .ref a_rg, .int v_fault])), (a_me, .inr (6, [.ref a_by, .ref a_ks])), (a_ps, .inr (7, [.long v_word])), (a_by, .inl (cB, 8192, .inl v_bF)), (a_ks, .inl (cI, 4, .inl v_kF))]
abbrev rmX9_demandTold : Room := { frames := 2, cells := 0, slots := 0, locals := 49 }
abbrev qX9_demandTold (D : va_G) (cI cB : ClassId) (a_st a_ins a_mc a_me a_ps a_by a_ks a_rg : Nat) (v_op : Int32) (v_i : Int32) (v_r : Int32) (v_s : Int32) (v_a : Int32) (v_b : Int32) (v_fault : Int32) (v_word : Int64) (v_bF : (Nat → Int32)) (v_kF : (Nat → Int32)) (x0 : Int32) : (Nat → Prop) → Array Value → State → Outcome → State → Prop := fun A9 => va_Qi (fun (r9 : Int32) (u9 : Int32) => r9 = (fX9_demandTold x0 v_i v_a v_b v_fault v_word v_bF v_kF).1 ∧ u9 = (fX9_demandTold x0 v_i v_a v_b v_fault v_word v_bF v_kF).2) (fun u9 t9 => atW D (TYS cI cB) A9 (wX9_demandTold cI cB a_st a_ins a_mc a_me a_ps a_by a_ks a_rg v_op v_i v_r v_s v_a v_b u9 v_word v_bF v_kF) t9) A9
set_option maxHeartbeats 4000000 in
set_option maxRecDepth 100000 in
theorem kX9_demandTold (l : Launch) (D : va_G) (cI cB : ClassId) (a_st a_ins a_mc a_me a_ps a_by a_ks a_rg : Nat) (sz : Nat) (v_op : Int32) (v_i : Int32) (v_r : Int32) (v_s : Int32) (v_a : Int32) (v_b : Int32) (v_fault : Int32) (v_word : Int64) (v_bF : (Nat → Int32)) (v_kF : (Nat → Int32)) (x0 : Int32) : MetW l yX9_demandTold (WK yX9_demandTold cX9_demandTold 5 (some .int)) rmX9_demandTold D (TYS cI cB) (wX9_demandTold cI cB a_st a_ins a_mc a_me a_ps a_by a_ks a_rg v_op v_i v_r v_s v_a v_b v_fault v_word v_bF v_kF) sz [.ref a_st, .int x0] (qX9_demandTold D cI cB a_st a_ins a_mc a_me a_ps a_by a_ks a_rg v_op v_i v_r v_s v_a v_b v_fault v_word v_bF v_kF x0) 0 0 := by
  refine met_std (by decide) rfl (Nat.le_of_ble_eq_true rfl) ?_
  intro p e s m below meth c A ls H hx hb hr hml hown hts hlocks hA hP hK hD hS hNW hl
  have hl : lv_has ls 5 [(0, .ref a_st), (1, .int x0)] := hl
  have q_0 := hts _ (List.mem_cons_of_mem _ wd_436)
  have q_1 := hts _ (List.mem_cons_of_mem _ wd_435)
  have q_2 := hts _ (List.mem_cons_of_mem _ wd_471)
  have n_0 := hNW.f (A := ([.ref a_st, .int x0] : List Value).toArray) ("MainframeCore$Strings", 49, "MainframeCore$Instruction", "i", "I", "MainframeCore") (by decide +kernel)
  have n_1 := hNW.f (A := ([.ref a_st, .int x0] : List Value).toArray) ("MainframeCore$Strings", 26, "MainframeCore$Instruction", "a", "I", "MainframeCore") (by decide +kernel)
  refine lv_aload_n hx hb dX9_demandTold_0 rfl (lv_at hl 0 rfl) ?_
  refine va_get (D := D) (ci := 9) (v := .ref a_ins) (C := RX9) (T := TX9) (N := 3) hx hb hts in_X9 hown hK hP 0 rfl rfl 1 (by decide) q_0 (fun _ h9 => h9) rfl dX9_demandTold_1 ?_
  refine va_getN (D := D) (ci := 4) (v := .int v_i) (C := RX4) (T := TX4) (N := 8) hx hb hts in_X4 hown hK hP 1 rfl rfl 3 (by decide) n_0 (fun _ h9 => h9) rfl dX9_demandTold_4 ?_
  refine lv_iconst (v := 1) hx hb dX9_demandTold_7 (by decide) ?_
  refine lv_iadd hx hb dX9_demandTold_8 ?_
  refine lv_topi (fun x_9 ex_9 => ?_)
  refine lv_istore_n (lv' := [(2, .int x_9), (0, .ref a_st), (1, .int x0)]) hx hb dX9_demandTold_9 rfl hl (by decide) rfl (fun ls hl => ?_)
  refine lv_aload_n hx hb dX9_demandTold_10 rfl (lv_at hl 1 rfl) ?_
  refine va_get (D := D) (ci := 9) (v := .ref a_mc) (C := RX9) (T := TX9) (N := 3) hx hb hts in_X9 hown hK hP 0 rfl rfl 0 (by decide) q_1 (fun _ h9 => h9) rfl dX9_demandTold_11 ?_
  refine lv_aload_n hx hb dX9_demandTold_14 rfl (lv_at hl 1 rfl) ?_
  refine va_get (D := D) (ci := 9) (v := .ref a_ins) (C := RX9) (T := TX9) (N := 3) hx hb hts in_X9 hown hK hP 0 rfl rfl 1 (by decide) q_0 (fun _ h9 => h9) rfl dX9_demandTold_15 ?_
  refine va_getN (D := D) (ci := 4) (v := .int v_a) (C := RX4) (T := TX4) (N := 8) hx hb hts in_X4 hown hK hP 1 rfl rfl 6 (by decide) n_1 (fun _ h9 => h9) rfl dX9_demandTold_18 ?_
  refine lv_iload_n hx hb dX9_demandTold_21 rfl (lv_at hl 0 rfl) ?_
  refine lv_iload_n hx hb dX9_demandTold_22 rfl (lv_at hl 2 rfl) ?_
  have hPc : va_P D vwCl (wX5_demand cI cB a_mc a_me a_ps a_by a_ks a_rg v_fault v_word v_kF) H := hP.sub [2, 3, 4, 6] rfl
  have hDc : va_D A (wX5_demand cI cB a_mc a_me a_ps a_by a_ks a_rg v_fault v_word v_kF) := hD.sub [2, 3, 4, 6] (by decide) rfl
  have hFc := va_free (wc := (wX5_demand cI cB a_mc a_me a_ps a_by a_ks a_rg v_fault v_word v_kF)) hD hS hA [2, 3, 4, 6] rfl
  refine va_callv (va_runV (As := [.int v_a, .int x_9, .int x0]) (rest := []) ⟨hx, hb, hml, hown, hts⟩ (kX5_demand l D cI cB a_mc a_me a_ps a_by a_ks a_rg H.size v_fault v_word v_kF v_a x_9 x0) (cwV 3 hts (gd_V wd_438 wd_106 wd_107 wd_24 wd_93) rfl rfl rfl hdX5_demand ⟨Nat.le_of_ble_eq_true rfl, Nat.le_of_ble_eq_true rfl⟩) (preV_std (ci := 5) (q0 := 0) hPc hK hDc hNW rfl rfl) rfl rfl hl.1 rfl (lv_room (Nat.le_of_ble_eq_true rfl)) dX9_demandTold_23 ⟨Nat.zero_le _, Nat.zero_le _⟩) hS (fun q _ h => hFc q h) hFc (fun u_23 t9 H1 locs ht9 hvm9 hw9 hB9 hz9 hk9 hS => ?_)
  have eu_23 : u_23 = fX5_demand v_a x_9 x0 v_fault v_word v_kF := hw9
  obtain ⟨hP, hD⟩ := back_std (w1 := (wX5_demand cI cB a_mc a_me a_ps a_by a_ks a_rg u_23 v_word v_kF)) (w2 := (wX9_demandTold cI cB a_st a_ins a_mc a_me a_ps a_by a_ks a_rg v_op v_i v_r v_s v_a v_b u_23 v_word v_bF v_kF)) (wr := [(a_st, .inr (9, [.ref a_mc, .ref a_ins, .ref a_me])), (a_ins, .inr (4, [.ref a_mc, .ref a_me, .int v_op, .int v_i, .int v_r, .int v_s, .int v_a, .int v_b])), (a_by, .inl (cB, 8192, .inl v_bF))]) hP hD [2, 3, 4, 6] [0, 1, 5] [0, 1, 3, 4, 5, 2, 6] rfl rfl (by decide) (by decide) hk9 hFc hB9 ht9 (by decide) rfl
  clear hB9 hk9 hz9 hvm9 ht9 hFc hPc hDc
  generalize H1 = H at hP hS ⊢
  refine lv_iconst (v := 0) hx hb dX9_demandTold_26 (by decide) ?_
  refine lv_istore_n (lv' := [(3, .int 0), (2, .int x_9), (0, .ref a_st), (1, .int x0)]) hx hb dX9_demandTold_27 rfl hl (by decide) rfl (fun ls hl => ?_)
  obtain ⟨g_28, eg_28⟩ : ∃ z : (Int32 × Int32), z = LX9_demandTold_28 v_word v_a v_b v_bF v_kF x_9 (msU x_9 0 + 1) (u_23, 0) := ⟨_, rfl⟩
  have K_28_0 : ∀ (H : Heap) (locs : List Loc), va_P D vwCl (wX9_demandTold cI cB a_st a_ins a_mc a_me a_ps a_by a_ks a_rg v_op v_i v_r v_s v_a v_b g_28.1 v_word v_bF v_kF) H → va_D A (wX9_demandTold cI cB a_st a_ins a_mc a_me a_ps a_by a_ks a_rg v_op v_i v_r v_s v_a v_b g_28.1 v_word v_bF v_kF) → va_S A s.heap H locs → ∀ (ls : Array Slot), lv_has ls 5 [(0, .ref a_st), (1, .int x0), (2, .int x_9), (3, .int g_28.2)] → W p l e rmX9_demandTold s m ([.ref a_st, .int x0] : List Value).toArray below meth c H locs 0 0 (MQ below (qX9_demandTold D cI cB a_st a_ins a_mc a_me a_ps a_by a_ks a_rg v_op v_i v_r v_s v_a v_b v_fault v_word v_bF v_kF x0 A) ([.ref a_st, .int x0] : List Value).toArray s 0 0 A) (F0 m 76 ls []) := by
    intro H locs hP hD hS ls hl
    refine lv_iload_n hx hb dX9_demandTold_76 rfl (lv_at hl 2 rfl) ?_
    have hf9 : (x_9, g_28.1) = fX9_demandTold x0 v_i v_a v_b v_fault v_word v_bF v_kF := by subst ex_9; simp only [fX9_demandTold, ← eu_23, ← eg_28]
    exact W.iret hx hb hr (fun t9 ht9 hW9 => ⟨⟨x_9, g_28.1, rfl, ⟨by rw [← hf9], by rw [← hf9]⟩, ⟨by rw [ht9]; exact hP, va_K.moved hW9.alike hK, hD⟩⟩, hS.F ht9⟩) hS.2.2 dX9_demandTold_77
  have lp_28 : ∀ (n9 : Nat) (w_28 : (Int32 × Int32)), msU x_9 w_28.2 < n9 → LX9_demandTold_28 v_word v_a v_b v_bF v_kF x_9 n9 w_28 = g_28 → ∀ (H : Heap) (locs : List Loc), va_P D vwCl (wX9_demandTold cI cB a_st a_ins a_mc a_me a_ps a_by a_ks a_rg v_op v_i v_r v_s v_a v_b w_28.1 v_word v_bF v_kF) H → va_D A (wX9_demandTold cI cB a_st a_ins a_mc a_me a_ps a_by a_ks a_rg v_op v_i v_r v_s v_a v_b w_28.1 v_word v_bF v_kF) → va_S A s.heap H locs → ∀ (ls : Array Slot), lv_has ls 5 [(0, .ref a_st), (1, .int x0), (2, .int x_9), (3, .int w_28.2)] → W p l e rmX9_demandTold s m ([.ref a_st, .int x0] : List Value).toArray below meth c H locs 0 0 (MQ below (qX9_demandTold D cI cB a_st a_ins a_mc a_me a_ps a_by a_ks a_rg v_op v_i v_r v_s v_a v_b v_fault v_word v_bF v_kF x0 A) ([.ref a_st, .int x0] : List Value).toArray s 0 0 A) (F0 m 28 ls []) := by
    intro n9
    induction n9 with
    | zero => intro w_28 hm9; exact absurd hm9 (Nat.not_lt_zero _)
    | succ n9 ih =>
      intro w_28 hm9 hL9 H locs hP hD hS ls hl
      refine lv_iload_n hx hb dX9_demandTold_28 rfl (lv_at hl 3 rfl) ?_
      refine lv_iload_n hx hb dX9_demandTold_29 rfl (lv_at hl 2 rfl) ?_
      refine lv_icmp_ge (tgt := 76) hx hb dX9_demandTold_30 (by decide) (fun c_30 => ?_) (fun c_30 => ?_)
      · skip
        have hg9 : (w_28.1, w_28.2) = g_28 := by rw [← hL9]; simp only [LX9_demandTold_28, if_pos c_30]
        subst hg9
        exact K_28_0 _ _ hP hD hS ls (lv_sub hl [0, 1, 2, 3] rfl)
      · skip
        refine lv_aload_n hx hb dX9_demandTold_33 rfl (lv_at hl 0 rfl) ?_
        refine va_get (D := D) (ci := 9) (v := .ref a_ins) (C := RX9) (T := TX9) (N := 3) hx hb hts in_X9 hown hK hP 0 rfl rfl 1 (by decide) q_0 (fun _ h9 => h9) rfl dX9_demandTold_34 ?_
        refine va_getN (D := D) (ci := 4) (v := .int v_a) (C := RX4) (T := TX4) (N := 8) hx hb hts in_X4 hown hK hP 1 rfl rfl 6 (by decide) n_1 (fun _ h9 => h9) rfl dX9_demandTold_37 ?_
        refine lv_iload_n hx hb dX9_demandTold_40 rfl (lv_at hl 3 rfl) ?_
        refine lv_iadd hx hb dX9_demandTold_41 ?_
        refine lv_ldc (v := 16777215) hx hb hown q_2 dX9_demandTold_42 ?_
        refine lv_iand hx hb dX9_demandTold_44 ?_
        refine lv_topi (fun x_45 ex_45 => ?_)
        refine lv_istore (lv' := [(4, .int x_45), (0, .ref a_st), (1, .int x0), (2, .int x_9), (3, .int w_28.2)]) hx hb dX9_demandTold_45 hl (by decide) rfl (fun ls hl => ?_)
        refine lv_iload hx hb dX9_demandTold_47 (lv_at hl 0 rfl) ?_
        refine lv_sipush (v := 8192) hx hb dX9_demandTold_49 (by decide) ?_
        have J_70 : ∀ (m_70 : Int32), m_70 = (if 8192 ≤ x_45 then (w_28.1) else (let r_62 := fX9_toldBy x_45 v_b v_bF; let u_67 := fX5_demand r_62 1 0 w_28.1 v_word v_kF; u_67)) → ∀ (H : Heap) (locs : List Loc), va_P D vwCl (wX9_demandTold cI cB a_st a_ins a_mc a_me a_ps a_by a_ks a_rg v_op v_i v_r v_s v_a v_b m_70 v_word v_bF v_kF) H → va_D A (wX9_demandTold cI cB a_st a_ins a_mc a_me a_ps a_by a_ks a_rg v_op v_i v_r v_s v_a v_b m_70 v_word v_bF v_kF) → va_S A s.heap H locs → ∀ (ls : Array Slot), lv_has ls 5 [(0, .ref a_st), (1, .int x0), (2, .int x_9), (3, .int w_28.2), (4, .int x_45)] → W p l e rmX9_demandTold s m ([.ref a_st, .int x0] : List Value).toArray below meth c H locs 0 0 (MQ below (qX9_demandTold D cI cB a_st a_ins a_mc a_me a_ps a_by a_ks a_rg v_op v_i v_r v_s v_a v_b v_fault v_word v_bF v_kF x0 A) ([.ref a_st, .int x0] : List Value).toArray s 0 0 A) (F0 m 70 ls []) := by
          intro m_70 em_70 H locs hP hD hS ls hl
          obtain ⟨x_70, ex_70⟩ : ∃ z : Int32, z = w_28.2 + 1 := ⟨_, rfl⟩
          refine lv_iinc (v := x_70) (lv' := [(3, .int x_70), (0, .ref a_st), (1, .int x0), (2, .int x_9), (4, .int x_45)]) hx hb dX9_demandTold_70 hl (k := 3) rfl (by rw [ex_70]; rfl) (by decide) rfl (fun ls hl => ?_)
          refine lv_goto (tgt := 28) hx hb dX9_demandTold_73 (by decide) ?_
          exact ih (m_70, x_70) (by subst ex_70; subst em_70; subst ex_45;  exact Nat.lt_of_lt_of_le (ms_up c_30) (Nat.le_of_lt_succ hm9)) (by rw [← hL9]; subst ex_70; subst em_70; subst ex_45; simp only [LX9_demandTold_28, if_neg c_30]) _ _ hP hD hS ls (lv_sub hl [1, 2, 3, 0] rfl)
        refine lv_icmp_ge (tgt := 70) hx hb dX9_demandTold_52 (by decide) (fun c_52 => ?_) (fun c_52 => ?_)
        · skip
          exact J_70 w_28.1 (by simp only [if_pos c_52]) _ _ hP hD hS ls (lv_sub hl [1, 2, 3, 4, 0] rfl)
        · skip
          refine lv_aload_n hx hb dX9_demandTold_55 rfl (lv_at hl 1 rfl) ?_
          refine va_get (D := D) (ci := 9) (v := .ref a_mc) (C := RX9) (T := TX9) (N := 3) hx hb hts in_X9 hown hK hP 0 rfl rfl 0 (by decide) q_1 (fun _ h9 => h9) rfl dX9_demandTold_56 ?_
          refine lv_aload_n hx hb dX9_demandTold_59 rfl (lv_at hl 1 rfl) ?_
          refine lv_iload hx hb dX9_demandTold_60 (lv_at hl 0 rfl) ?_
          have hPc : va_P D vwCl (wX9_toldBy cI cB a_st a_ins a_mc a_me a_by a_ks v_op v_i v_r v_s v_a v_b v_bF) H := hP.sub [0, 1, 3, 5] rfl
          have hDc : va_D A (wX9_toldBy cI cB a_st a_ins a_mc a_me a_by a_ks v_op v_i v_r v_s v_a v_b v_bF) := hD.sub [0, 1, 3, 5] (by decide) rfl
          have hFc := va_free (wc := (wX9_toldBy cI cB a_st a_ins a_mc a_me a_by a_ks v_op v_i v_r v_s v_a v_b v_bF)) hD hS hA [0, 1, 3, 5] rfl
          refine va_calli (va_runV (As := [.int x_45]) (rest := [.ref a_mc]) ⟨hx, hb, hml, hown, hts⟩ (kX9_toldBy l D cI cB a_st a_ins a_mc a_me a_by a_ks H.size v_op v_i v_r v_s v_a v_b v_bF x_45) (cwV 1 hts (gd_V wd_472 wd_473 wd_474 wd_455 wd_470) rfl rfl rfl hdX9_toldBy ⟨Nat.le_of_ble_eq_true rfl, Nat.le_of_ble_eq_true rfl⟩) (preV_std (ci := 9) (q0 := 0) hPc hK hDc hNW rfl rfl) rfl rfl hl.1 rfl (lv_room (Nat.le_of_ble_eq_true rfl)) dX9_demandTold_62 ⟨Nat.zero_le _, Nat.zero_le _⟩) hS (fun q _ h => hFc q h) hFc (fun r_62 u_62 t9 H1 locs ht9 hvm9 hw9 hB9 hz9 hk9 hS => ?_)
          have er_62 : r_62 = fX9_toldBy x_45 v_b v_bF := hw9
          obtain ⟨hP, hD⟩ := back_std (w1 := (wX9_toldBy cI cB a_st a_ins a_mc a_me a_by a_ks v_op v_i v_r v_s v_a v_b v_bF)) (w2 := (wX9_demandTold cI cB a_st a_ins a_mc a_me a_ps a_by a_ks a_rg v_op v_i v_r v_s v_a v_b w_28.1 v_word v_bF v_kF)) (wr := [(a_mc, .inr (5, [.ref a_me, .ref a_ps, .ref a_rg, .int w_28.1])), (a_ps, .inr (7, [.long v_word])), (a_ks, .inl (cI, 4, .inl v_kF))]) hP hD [0, 1, 3, 5] [2, 4, 6] [3, 4, 0, 5, 1, 6, 2] rfl rfl (by decide) (by decide) hk9 hFc hB9 ht9 (by decide) rfl
          clear hB9 hk9 hz9 hvm9 ht9 hFc hPc hDc
          generalize H1 = H at hP hS ⊢
          refine lv_iconst (v := 1) hx hb dX9_demandTold_65 (by decide) ?_
          refine lv_iconst (v := 0) hx hb dX9_demandTold_66 (by decide) ?_
          have hPc : va_P D vwCl (wX5_demand cI cB a_mc a_me a_ps a_by a_ks a_rg w_28.1 v_word v_kF) H := hP.sub [2, 3, 4, 6] rfl
          have hDc : va_D A (wX5_demand cI cB a_mc a_me a_ps a_by a_ks a_rg w_28.1 v_word v_kF) := hD.sub [2, 3, 4, 6] (by decide) rfl
          have hFc := va_free (wc := (wX5_demand cI cB a_mc a_me a_ps a_by a_ks a_rg w_28.1 v_word v_kF)) hD hS hA [2, 3, 4, 6] rfl
          refine va_callv (va_runV (As := [.int r_62, .int 1, .int 0]) (rest := []) ⟨hx, hb, hml, hown, hts⟩ (kX5_demand l D cI cB a_mc a_me a_ps a_by a_ks a_rg H.size w_28.1 v_word v_kF r_62 1 0) (cwV 3 hts (gd_V wd_438 wd_106 wd_107 wd_24 wd_93) rfl rfl rfl hdX5_demand ⟨Nat.le_of_ble_eq_true rfl, Nat.le_of_ble_eq_true rfl⟩) (preV_std (ci := 5) (q0 := 0) hPc hK hDc hNW rfl rfl) rfl rfl hl.1 rfl (lv_room (Nat.le_of_ble_eq_true rfl)) dX9_demandTold_67 ⟨Nat.zero_le _, Nat.zero_le _⟩) hS (fun q _ h => hFc q h) hFc (fun u_67 t9 H1 locs ht9 hvm9 hw9 hB9 hz9 hk9 hS => ?_)
          have eu_67 : u_67 = fX5_demand r_62 1 0 w_28.1 v_word v_kF := hw9
          obtain ⟨hP, hD⟩ := back_std (w1 := (wX5_demand cI cB a_mc a_me a_ps a_by a_ks a_rg u_67 v_word v_kF)) (w2 := (wX9_demandTold cI cB a_st a_ins a_mc a_me a_ps a_by a_ks a_rg v_op v_i v_r v_s v_a v_b u_67 v_word v_bF v_kF)) (wr := [(a_st, .inr (9, [.ref a_mc, .ref a_ins, .ref a_me])), (a_ins, .inr (4, [.ref a_mc, .ref a_me, .int v_op, .int v_i, .int v_r, .int v_s, .int v_a, .int v_b])), (a_by, .inl (cB, 8192, .inl v_bF))]) hP hD [2, 3, 4, 6] [0, 1, 5] [0, 1, 3, 4, 5, 2, 6] rfl rfl (by decide) (by decide) hk9 hFc hB9 ht9 (by decide) rfl
          clear hB9 hk9 hz9 hvm9 ht9 hFc hPc hDc
          generalize H1 = H at hP hS ⊢
          exact J_70 u_67 (by simp only [← er_62, ← eu_67, if_neg c_52]) _ _ hP hD hS ls (lv_sub hl [1, 2, 3, 4, 0] rfl)
  exact lp_28 (msU x_9 0 + 1) (u_23, 0) (Nat.lt_succ_self _) eg_28.symm _ _ hP hD hS ls (lv_sub hl [2, 3, 1, 0] rfl)
theorem hdX9_demandTold : yX9_demandTold.cls = RX9 ∧ yX9_demandTold.cls ≠ "java/lang/invoke/MethodHandle" ∧ yX9_demandTold.cls ≠ "java/lang/invoke/VarHandle" ∧ (parseMethodDescriptor yX9_demandTold.desc).map (fun d => d.parameters.length) = some 1 := by decide +kernel
noncomputable def LX9_translate_8 (v_a : Int32) (v_b : Int32) (r_2 : Int32) (u_2 : Int32) : Nat → ((Nat → Int32) × Int32) → ((Nat → Int32) × Int32)
  | 0, w_8 => w_8
  | n9 + 1, w_8 =>
    if r_2 ≤ w_8.2 then ((w_8.1, w_8.2)) else (let r_17 := fX5_fine u_2; if r_17 = 0 then ((w_8.1, w_8.2)) else (let r_50 := fX9_toldBy (v_a + w_8.2) v_b w_8.1; let r_53 := fX6_get r_50 w_8.1; let u_56 := fX6_set (v_a + w_8.2) r_53 w_8.1; let x_59 := w_8.2 + 1; LX9_translate_8 v_a v_b r_2 u_2 n9 (u_56, x_59)))
noncomputable def fX9_translate (v_i : Int32) (v_a : Int32) (v_b : Int32) (v_fault : Int32) (v_word : Int64) (v_bF : (Nat → Int32)) (v_kF : (Nat → Int32)) : (Int32 × (Nat → Int32)) :=
  let p_2 := fX9_demandTold 1 v_i v_a v_b v_fault v_word v_bF v_kF
  let r_2 := p_2.1
  let u_2 := p_2.2
  let g_8 := LX9_translate_8 v_a v_b r_2 u_2 (msU r_2 0 + 1) (v_bF, 0)
  (u_2, g_8.1)
abbrev wX9_translate (cI cB : ClassId) (a_st a_ins a_mc a_me a_ps a_by a_ks a_rg : Nat) (v_op : Int32) (v_i : Int32) (v_r : Int32) (v_s : Int32) (v_a : Int32) (v_b : Int32) (v_fault : Int32) (v_word : Int64) (v_bF : (Nat → Int32)) (v_kF : (Nat → Int32)) : va_W := [(a_st, .inr (9, [.ref a_mc, .ref a_ins, .ref a_me])), (a_ins, .inr (4, [.ref a_mc, .ref a_me, .int v_op, .int v_i, .int v_r, .int v_s, .int v_a, .int v_b])), (a_mc, .inr (5, [.ref a_me, .ref a_ps, .ref a_rg, .int v_fault])), (a_me, .inr (6, [.ref a_by, .ref a_ks])), (a_ps, .inr (7, [.long v_word])), (a_by, .inl (cB, 8192, .inl v_bF)), (a_ks, .inl (cI, 4, .inl v_kF))]
abbrev rmX9_translate : Room := { frames := 3, cells := 0, slots := 0, locals := 73 }
abbrev qX9_translate (D : va_G) (cI cB : ClassId) (a_st a_ins a_mc a_me a_ps a_by a_ks a_rg : Nat) (v_op : Int32) (v_i : Int32) (v_r : Int32) (v_s : Int32) (v_a : Int32) (v_b : Int32) (v_fault : Int32) (v_word : Int64) (v_bF : (Nat → Int32)) (v_kF : (Nat → Int32)) : (Nat → Prop) → Array Value → State → Outcome → State → Prop := fun A9 => va_Qv (fun (u9 : (Int32 × (Nat → Int32))) => u9 = fX9_translate v_i v_a v_b v_fault v_word v_bF v_kF) (fun u9 t9 => atW D (TYS cI cB) A9 (wX9_translate cI cB a_st a_ins a_mc a_me a_ps a_by a_ks a_rg v_op v_i v_r v_s v_a v_b u9.1 v_word u9.2 v_kF) t9) A9
set_option maxHeartbeats 4000000 in
set_option maxRecDepth 100000 in
theorem kX9_translate (l : Launch) (D : va_G) (cI cB : ClassId) (a_st a_ins a_mc a_me a_ps a_by a_ks a_rg : Nat) (sz : Nat) (v_op : Int32) (v_i : Int32) (v_r : Int32) (v_s : Int32) (v_a : Int32) (v_b : Int32) (v_fault : Int32) (v_word : Int64) (v_bF : (Nat → Int32)) (v_kF : (Nat → Int32)) : MetW l yX9_translate (WK yX9_translate cX9_translate 3 none) rmX9_translate D (TYS cI cB) (wX9_translate cI cB a_st a_ins a_mc a_me a_ps a_by a_ks a_rg v_op v_i v_r v_s v_a v_b v_fault v_word v_bF v_kF) sz [.ref a_st] (qX9_translate D cI cB a_st a_ins a_mc a_me a_ps a_by a_ks a_rg v_op v_i v_r v_s v_a v_b v_fault v_word v_bF v_kF) 0 0 := by
  refine met_std (by decide) rfl (Nat.le_of_ble_eq_true rfl) ?_
  intro p e s m below meth c A ls H hx hb hr hml hown hts hlocks hA hP hK hD hS hNW hl
  have hl : lv_has ls 3 [(0, .ref a_st)] := hl
  have q_0 := hts _ (List.mem_cons_of_mem _ wd_435)
  have q_1 := hts _ (List.mem_cons_of_mem _ wd_437)
  have q_2 := hts _ (List.mem_cons_of_mem _ wd_436)
  have n_0 := hNW.f (A := ([.ref a_st] : List Value).toArray) ("MainframeCore$Strings", 26, "MainframeCore$Instruction", "a", "I", "MainframeCore") (by decide +kernel)
  refine lv_aload_n hx hb dX9_translate_0 rfl (lv_at hl 0 rfl) ?_
  refine lv_iconst (v := 1) hx hb dX9_translate_1 (by decide) ?_
  have hPc : va_P D vwCl (wX9_demandTold cI cB a_st a_ins a_mc a_me a_ps a_by a_ks a_rg v_op v_i v_r v_s v_a v_b v_fault v_word v_bF v_kF) H := hP.sub [0, 1, 2, 3, 4, 5, 6] rfl
  have hDc : va_D A (wX9_demandTold cI cB a_st a_ins a_mc a_me a_ps a_by a_ks a_rg v_op v_i v_r v_s v_a v_b v_fault v_word v_bF v_kF) := hD.sub [0, 1, 2, 3, 4, 5, 6] (by decide) rfl
  have hFc := va_free (wc := (wX9_demandTold cI cB a_st a_ins a_mc a_me a_ps a_by a_ks a_rg v_op v_i v_r v_s v_a v_b v_fault v_word v_bF v_kF)) hD hS hA [0, 1, 2, 3, 4, 5, 6] rfl
  refine va_calli (va_runV (As := [.int 1]) (rest := []) ⟨hx, hb, hml, hown, hts⟩ (kX9_demandTold l D cI cB a_st a_ins a_mc a_me a_ps a_by a_ks a_rg H.size v_op v_i v_r v_s v_a v_b v_fault v_word v_bF v_kF 1) (cwV 1 hts (gd_V wd_476 wd_477 wd_478 wd_455 wd_475) rfl rfl rfl hdX9_demandTold ⟨Nat.le_of_ble_eq_true rfl, Nat.le_of_ble_eq_true rfl⟩) (preV_std (ci := 9) (q0 := 0) hPc hK hDc hNW rfl rfl) rfl rfl hl.1 rfl (lv_room (Nat.le_of_ble_eq_true rfl)) dX9_translate_2 ⟨Nat.zero_le _, Nat.zero_le _⟩) hS (fun q _ h => hFc q h) hFc (fun r_2 u_2 t9 H1 locs ht9 hvm9 hw9 hB9 hz9 hk9 hS => ?_)
  obtain ⟨er_2, eu_2⟩ := hw9
  obtain ⟨hP, hD⟩ := back_std (w1 := (wX9_demandTold cI cB a_st a_ins a_mc a_me a_ps a_by a_ks a_rg v_op v_i v_r v_s v_a v_b u_2 v_word v_bF v_kF)) (w2 := (wX9_translate cI cB a_st a_ins a_mc a_me a_ps a_by a_ks a_rg v_op v_i v_r v_s v_a v_b u_2 v_word v_bF v_kF)) (wr := []) hP hD [0, 1, 2, 3, 4, 5, 6] [] [0, 1, 2, 3, 4, 5, 6] rfl rfl (by decide) (by decide) hk9 hFc hB9 ht9 (by decide) rfl
  clear hB9 hk9 hz9 hvm9 ht9 hFc hPc hDc
  generalize H1 = H at hP hS ⊢
  refine lv_istore_n (lv' := [(1, .int r_2), (0, .ref a_st)]) hx hb dX9_translate_5 rfl hl (by decide) rfl (fun ls hl => ?_)
  refine lv_iconst (v := 0) hx hb dX9_translate_6 (by decide) ?_
  refine lv_istore_n (lv' := [(2, .int 0), (1, .int r_2), (0, .ref a_st)]) hx hb dX9_translate_7 rfl hl (by decide) rfl (fun ls hl => ?_)
  obtain ⟨g_8, eg_8⟩ : ∃ z : ((Nat → Int32) × Int32), z = LX9_translate_8 v_a v_b r_2 u_2 (msU r_2 0 + 1) (v_bF, 0) := ⟨_, rfl⟩
  have K_8_0 : ∀ (H : Heap) (locs : List Loc), va_P D vwCl (wX9_translate cI cB a_st a_ins a_mc a_me a_ps a_by a_ks a_rg v_op v_i v_r v_s v_a v_b u_2 v_word g_8.1 v_kF) H → va_D A (wX9_translate cI cB a_st a_ins a_mc a_me a_ps a_by a_ks a_rg v_op v_i v_r v_s v_a v_b u_2 v_word g_8.1 v_kF) → va_S A s.heap H locs → ∀ (ls : Array Slot), lv_has ls 3 [(0, .ref a_st), (1, .int r_2), (2, .int g_8.2)] → W p l e rmX9_translate s m ([.ref a_st] : List Value).toArray below meth c H locs 0 0 (MQ below (qX9_translate D cI cB a_st a_ins a_mc a_me a_ps a_by a_ks a_rg v_op v_i v_r v_s v_a v_b v_fault v_word v_bF v_kF A) ([.ref a_st] : List Value).toArray s 0 0 A) (F0 m 65 ls []) := by
    intro H locs hP hD hS ls hl
    have hf9 : (u_2, g_8.1) = fX9_translate v_i v_a v_b v_fault v_word v_bF v_kF := by simp only [fX9_translate, ← er_2, ← eu_2, ← eg_8]
    exact W.vret hx hb hr (fun t9 ht9 hW9 => ⟨⟨(u_2, g_8.1), rfl, hf9, ⟨by rw [ht9]; exact hP, va_K.moved hW9.alike hK, hD⟩⟩, hS.F ht9⟩) hS.2.2 dX9_translate_65
  have lp_8 : ∀ (n9 : Nat) (w_8 : ((Nat → Int32) × Int32)), msU r_2 w_8.2 < n9 → LX9_translate_8 v_a v_b r_2 u_2 n9 w_8 = g_8 → ∀ (H : Heap) (locs : List Loc), va_P D vwCl (wX9_translate cI cB a_st a_ins a_mc a_me a_ps a_by a_ks a_rg v_op v_i v_r v_s v_a v_b u_2 v_word w_8.1 v_kF) H → va_D A (wX9_translate cI cB a_st a_ins a_mc a_me a_ps a_by a_ks a_rg v_op v_i v_r v_s v_a v_b u_2 v_word w_8.1 v_kF) → va_S A s.heap H locs → ∀ (ls : Array Slot), lv_has ls 3 [(0, .ref a_st), (1, .int r_2), (2, .int w_8.2)] → W p l e rmX9_translate s m ([.ref a_st] : List Value).toArray below meth c H locs 0 0 (MQ below (qX9_translate D cI cB a_st a_ins a_mc a_me a_ps a_by a_ks a_rg v_op v_i v_r v_s v_a v_b v_fault v_word v_bF v_kF A) ([.ref a_st] : List Value).toArray s 0 0 A) (F0 m 8 ls []) := by
    intro n9
    induction n9 with
    | zero => intro w_8 hm9; exact absurd hm9 (Nat.not_lt_zero _)
    | succ n9 ih =>
      intro w_8 hm9 hL9 H locs hP hD hS ls hl
      refine lv_iload_n hx hb dX9_translate_8 rfl (lv_at hl 2 rfl) ?_
      refine lv_iload_n hx hb dX9_translate_9 rfl (lv_at hl 1 rfl) ?_
      refine lv_icmp_ge (tgt := 65) hx hb dX9_translate_10 (by decide) (fun c_10 => ?_) (fun c_10 => ?_)
      · skip
        have hg9 : (w_8.1, w_8.2) = g_8 := by rw [← hL9]; simp only [LX9_translate_8, if_pos c_10]
        subst hg9
        exact K_8_0 _ _ hP hD hS ls (lv_sub hl [0, 1, 2] rfl)
      · skip
        refine lv_aload_n hx hb dX9_translate_13 rfl (lv_at hl 0 rfl) ?_
        refine va_get (D := D) (ci := 9) (v := .ref a_mc) (C := RX9) (T := TX9) (N := 3) hx hb hts in_X9 hown hK hP 0 rfl rfl 0 (by decide) q_0 (fun _ h9 => h9) rfl dX9_translate_14 ?_
        have hPc : va_P D vwCl (wX5_fine cI cB a_mc a_me a_ps a_rg u_2) H := hP.sub [2] rfl
        have hDc : va_D A (wX5_fine cI cB a_mc a_me a_ps a_rg u_2) := hD.sub [2] (by decide) rfl
        have hFc := va_free (wc := (wX5_fine cI cB a_mc a_me a_ps a_rg u_2)) hD hS hA [2] rfl
        refine va_calli (va_runV (As := []) (rest := []) ⟨hx, hb, hml, hown, hts⟩ (kX5_fine l D cI cB a_mc a_me a_ps a_rg H.size u_2 ) (cwV 0 hts (gd_V wd_439 wd_73 wd_74 wd_24 wd_66) rfl rfl rfl hdX5_fine ⟨Nat.le_of_ble_eq_true rfl, Nat.le_of_ble_eq_true rfl⟩) (preV_std (ci := 5) (q0 := 0) hPc hK hDc hNW rfl rfl) rfl rfl hl.1 rfl (lv_room (Nat.le_of_ble_eq_true rfl)) dX9_translate_17 ⟨Nat.zero_le _, Nat.zero_le _⟩) hS (fun q _ h => hFc q h) hFc (fun r_17 u_17 t9 H1 locs ht9 hvm9 hw9 hB9 hz9 hk9 hS => ?_)
        have er_17 : r_17 = fX5_fine u_2 := hw9
        have zr_17 : r_17 = 0 ∨ r_17 = 1 := by rw [er_17]; exact zX5_fine _
        obtain ⟨hP, hD⟩ := back_std (w1 := (wX5_fine cI cB a_mc a_me a_ps a_rg u_2)) (w2 := (wX9_translate cI cB a_st a_ins a_mc a_me a_ps a_by a_ks a_rg v_op v_i v_r v_s v_a v_b u_2 v_word w_8.1 v_kF)) (wr := [(a_st, .inr (9, [.ref a_mc, .ref a_ins, .ref a_me])), (a_ins, .inr (4, [.ref a_mc, .ref a_me, .int v_op, .int v_i, .int v_r, .int v_s, .int v_a, .int v_b])), (a_me, .inr (6, [.ref a_by, .ref a_ks])), (a_ps, .inr (7, [.long v_word])), (a_by, .inl (cB, 8192, .inl w_8.1)), (a_ks, .inl (cI, 4, .inl v_kF))]) hP hD [2] [0, 1, 3, 4, 5, 6] [0, 1, 6, 2, 3, 4, 5] rfl rfl (by decide) (by decide) hk9 hFc hB9 ht9 (by decide) rfl
        clear hB9 hk9 hz9 hvm9 ht9 hFc hPc hDc
        generalize H1 = H at hP hS ⊢
        refine lv_if_eq (tgt := 65) hx hb dX9_translate_20 (by decide) (fun c_20 => ?_) (fun c_20 => ?_)
        · skip
          have hg9 : (w_8.1, w_8.2) = g_8 := by rw [← hL9]; simp only [LX9_translate_8, ← er_17, if_neg c_10, if_pos c_20]
          subst hg9
          exact K_8_0 _ _ hP hD hS ls (lv_sub hl [0, 1, 2] rfl)
        · skip
          refine lv_aload_n hx hb dX9_translate_23 rfl (lv_at hl 0 rfl) ?_
          refine va_get (D := D) (ci := 9) (v := .ref a_me) (C := RX9) (T := TX9) (N := 3) hx hb hts in_X9 hown hK hP 0 rfl rfl 2 (by decide) q_1 (fun _ h9 => h9) rfl dX9_translate_24 ?_
          refine lv_aload_n hx hb dX9_translate_27 rfl (lv_at hl 0 rfl) ?_
          refine va_get (D := D) (ci := 9) (v := .ref a_ins) (C := RX9) (T := TX9) (N := 3) hx hb hts in_X9 hown hK hP 0 rfl rfl 1 (by decide) q_2 (fun _ h9 => h9) rfl dX9_translate_28 ?_
          refine va_getN (D := D) (ci := 4) (v := .int v_a) (C := RX4) (T := TX4) (N := 8) hx hb hts in_X4 hown hK hP 1 rfl rfl 6 (by decide) n_0 (fun _ h9 => h9) rfl dX9_translate_31 ?_
          refine lv_iload_n hx hb dX9_translate_34 rfl (lv_at hl 2 rfl) ?_
          refine lv_iadd hx hb dX9_translate_35 ?_
          refine lv_aload_n hx hb dX9_translate_36 rfl (lv_at hl 0 rfl) ?_
          refine va_get (D := D) (ci := 9) (v := .ref a_me) (C := RX9) (T := TX9) (N := 3) hx hb hts in_X9 hown hK hP 0 rfl rfl 2 (by decide) q_1 (fun _ h9 => h9) rfl dX9_translate_37 ?_
          refine lv_aload_n hx hb dX9_translate_40 rfl (lv_at hl 0 rfl) ?_
          refine lv_aload_n hx hb dX9_translate_41 rfl (lv_at hl 0 rfl) ?_
          refine va_get (D := D) (ci := 9) (v := .ref a_ins) (C := RX9) (T := TX9) (N := 3) hx hb hts in_X9 hown hK hP 0 rfl rfl 1 (by decide) q_2 (fun _ h9 => h9) rfl dX9_translate_42 ?_
          refine va_getN (D := D) (ci := 4) (v := .int v_a) (C := RX4) (T := TX4) (N := 8) hx hb hts in_X4 hown hK hP 1 rfl rfl 6 (by decide) n_0 (fun _ h9 => h9) rfl dX9_translate_45 ?_
          refine lv_iload_n hx hb dX9_translate_48 rfl (lv_at hl 2 rfl) ?_
          refine lv_iadd hx hb dX9_translate_49 ?_
          have hPc : va_P D vwCl (wX9_toldBy cI cB a_st a_ins a_mc a_me a_by a_ks v_op v_i v_r v_s v_a v_b w_8.1) H := hP.sub [0, 1, 3, 5] rfl
          have hDc : va_D A (wX9_toldBy cI cB a_st a_ins a_mc a_me a_by a_ks v_op v_i v_r v_s v_a v_b w_8.1) := hD.sub [0, 1, 3, 5] (by decide) rfl
          have hFc := va_free (wc := (wX9_toldBy cI cB a_st a_ins a_mc a_me a_by a_ks v_op v_i v_r v_s v_a v_b w_8.1)) hD hS hA [0, 1, 3, 5] rfl
          refine va_calli (va_runV (As := [.int (v_a + w_8.2)]) (rest := [.ref a_me, .int (v_a + w_8.2), .ref a_me]) ⟨hx, hb, hml, hown, hts⟩ (kX9_toldBy l D cI cB a_st a_ins a_mc a_me a_by a_ks H.size v_op v_i v_r v_s v_a v_b w_8.1 (v_a + w_8.2)) (cwV 1 hts (gd_V wd_472 wd_473 wd_474 wd_455 wd_470) rfl rfl rfl hdX9_toldBy ⟨Nat.le_of_ble_eq_true rfl, Nat.le_of_ble_eq_true rfl⟩) (preV_std (ci := 9) (q0 := 0) hPc hK hDc hNW rfl rfl) rfl rfl hl.1 rfl (lv_room (Nat.le_of_ble_eq_true rfl)) dX9_translate_50 ⟨Nat.zero_le _, Nat.zero_le _⟩) hS (fun q _ h => hFc q h) hFc (fun r_50 u_50 t9 H1 locs ht9 hvm9 hw9 hB9 hz9 hk9 hS => ?_)
          have er_50 : r_50 = fX9_toldBy (v_a + w_8.2) v_b w_8.1 := hw9
          obtain ⟨hP, hD⟩ := back_std (w1 := (wX9_toldBy cI cB a_st a_ins a_mc a_me a_by a_ks v_op v_i v_r v_s v_a v_b w_8.1)) (w2 := (wX9_translate cI cB a_st a_ins a_mc a_me a_ps a_by a_ks a_rg v_op v_i v_r v_s v_a v_b u_2 v_word w_8.1 v_kF)) (wr := [(a_mc, .inr (5, [.ref a_me, .ref a_ps, .ref a_rg, .int u_2])), (a_ps, .inr (7, [.long v_word])), (a_ks, .inl (cI, 4, .inl v_kF))]) hP hD [0, 1, 3, 5] [2, 4, 6] [3, 4, 0, 5, 1, 6, 2] rfl rfl (by decide) (by decide) hk9 hFc hB9 ht9 (by decide) rfl
          clear hB9 hk9 hz9 hvm9 ht9 hFc hPc hDc
          generalize H1 = H at hP hS ⊢
          have hPc : va_P D vwCl (wX6_get cI cB a_me a_by a_ks w_8.1) H := hP.sub [3, 5] rfl
          have hDc : va_D A (wX6_get cI cB a_me a_by a_ks w_8.1) := hD.sub [3, 5] (by decide) rfl
          have hFc := va_free (wc := (wX6_get cI cB a_me a_by a_ks w_8.1)) hD hS hA [3, 5] rfl
          refine va_calli (va_runV (As := [.int r_50]) (rest := [.int (v_a + w_8.2), .ref a_me]) ⟨hx, hb, hml, hown, hts⟩ (kX6_get l D cI cB a_me a_by a_ks H.size w_8.1 r_50) (cwV 1 hts (gd_V wd_440 wd_109 wd_110 wd_78 wd_102) rfl rfl rfl hdX6_get ⟨Nat.le_of_ble_eq_true rfl, Nat.le_of_ble_eq_true rfl⟩) (preV_std (ci := 6) (q0 := 0) hPc hK hDc hNW rfl rfl) rfl rfl hl.1 rfl (lv_room (Nat.le_of_ble_eq_true rfl)) dX9_translate_53 ⟨Nat.zero_le _, Nat.zero_le _⟩) hS (fun q _ h => hFc q h) hFc (fun r_53 u_53 t9 H1 locs ht9 hvm9 hw9 hB9 hz9 hk9 hS => ?_)
          have er_53 : r_53 = fX6_get r_50 w_8.1 := hw9
          obtain ⟨hP, hD⟩ := back_std (w1 := (wX6_get cI cB a_me a_by a_ks w_8.1)) (w2 := (wX9_translate cI cB a_st a_ins a_mc a_me a_ps a_by a_ks a_rg v_op v_i v_r v_s v_a v_b u_2 v_word w_8.1 v_kF)) (wr := [(a_st, .inr (9, [.ref a_mc, .ref a_ins, .ref a_me])), (a_ins, .inr (4, [.ref a_mc, .ref a_me, .int v_op, .int v_i, .int v_r, .int v_s, .int v_a, .int v_b])), (a_mc, .inr (5, [.ref a_me, .ref a_ps, .ref a_rg, .int u_2])), (a_ps, .inr (7, [.long v_word])), (a_ks, .inl (cI, 4, .inl v_kF))]) hP hD [3, 5] [0, 1, 2, 4, 6] [0, 1, 2, 5, 3, 6, 4] rfl rfl (by decide) (by decide) hk9 hFc hB9 ht9 (by decide) rfl
          clear hB9 hk9 hz9 hvm9 ht9 hFc hPc hDc
          generalize H1 = H at hP hS ⊢
          have hPc : va_P D vwCl (wX6_set cI cB a_me a_by a_ks w_8.1) H := hP.sub [3, 5] rfl
          have hDc : va_D A (wX6_set cI cB a_me a_by a_ks w_8.1) := hD.sub [3, 5] (by decide) rfl
          have hFc := va_free (wc := (wX6_set cI cB a_me a_by a_ks w_8.1)) hD hS hA [3, 5] rfl
          refine va_callv (va_runV (As := [.int (v_a + w_8.2), .int r_53]) (rest := []) ⟨hx, hb, hml, hown, hts⟩ (kX6_set l D cI cB a_me a_by a_ks H.size w_8.1 (v_a + w_8.2) r_53) (cwV 2 hts (gd_V wd_447 wd_151 wd_152 wd_78 wd_145) rfl rfl rfl hdX6_set ⟨Nat.le_of_ble_eq_true rfl, Nat.le_of_ble_eq_true rfl⟩) (preV_std (ci := 6) (q0 := 0) hPc hK hDc hNW rfl rfl) rfl rfl hl.1 rfl (lv_room (Nat.le_of_ble_eq_true rfl)) dX9_translate_56 ⟨Nat.zero_le _, Nat.zero_le _⟩) hS (fun q _ h => hFc q h) hFc (fun u_56 t9 H1 locs ht9 hvm9 hw9 hB9 hz9 hk9 hS => ?_)
          have eu_56 : u_56 = fX6_set (v_a + w_8.2) r_53 w_8.1 := hw9
          obtain ⟨hP, hD⟩ := back_std (w1 := (wX6_set cI cB a_me a_by a_ks u_56)) (w2 := (wX9_translate cI cB a_st a_ins a_mc a_me a_ps a_by a_ks a_rg v_op v_i v_r v_s v_a v_b u_2 v_word u_56 v_kF)) (wr := [(a_st, .inr (9, [.ref a_mc, .ref a_ins, .ref a_me])), (a_ins, .inr (4, [.ref a_mc, .ref a_me, .int v_op, .int v_i, .int v_r, .int v_s, .int v_a, .int v_b])), (a_mc, .inr (5, [.ref a_me, .ref a_ps, .ref a_rg, .int u_2])), (a_ps, .inr (7, [.long v_word])), (a_ks, .inl (cI, 4, .inl v_kF))]) hP hD [3, 5] [0, 1, 2, 4, 6] [0, 1, 2, 5, 3, 6, 4] rfl rfl (by decide) (by decide) hk9 hFc hB9 ht9 (by decide) rfl
          clear hB9 hk9 hz9 hvm9 ht9 hFc hPc hDc
          generalize H1 = H at hP hS ⊢
          obtain ⟨x_59, ex_59⟩ : ∃ z : Int32, z = w_8.2 + 1 := ⟨_, rfl⟩
          refine lv_iinc (v := x_59) (lv' := [(2, .int x_59), (0, .ref a_st), (1, .int r_2)]) hx hb dX9_translate_59 hl (k := 2) rfl (by rw [ex_59]; rfl) (by decide) rfl (fun ls hl => ?_)
          refine lv_goto (tgt := 8) hx hb dX9_translate_62 (by decide) ?_
          exact ih (u_56, x_59) (by subst ex_59; subst eu_56; subst er_53; subst er_50; subst er_17;  exact Nat.lt_of_lt_of_le (ms_up c_10) (Nat.le_of_lt_succ hm9)) (by rw [← hL9]; subst ex_59; simp only [LX9_translate_8, ← er_17, ← er_50, ← er_53, ← eu_56, if_neg c_10, if_neg c_20]) _ _ hP hD hS ls (lv_sub hl [1, 2, 0] rfl)
  exact lp_8 (msU r_2 0 + 1) (v_bF, 0) (Nat.lt_succ_self _) eg_8.symm _ _ hP hD hS ls (lv_sub hl [2, 1, 0] rfl)
theorem hdX9_translate : yX9_translate.cls = RX9 ∧ yX9_translate.cls ≠ "java/lang/invoke/MethodHandle" ∧ yX9_translate.cls ≠ "java/lang/invoke/VarHandle" ∧ (parseMethodDescriptor yX9_translate.desc).map (fun d => d.parameters.length) = some 0 := by decide +kernel
noncomputable def LX9_translateAndTest_24 (v_a : Int32) (v_b : Int32) (v_bF : (Nat → Int32)) (r_2 : Int32) : Nat → (Int32 × Int32 × Int32) → (Int32 × Int32 × Int32)
  | 0, w_24 => w_24
  | n9 + 1, w_24 =>
    if r_2 ≤ w_24.2.1 then ((w_24.1, w_24.2.1, w_24.2.2)) else (if w_24.1 = 0 then (let r_52 := fX9_toldBy (v_a + w_24.2.1) v_b v_bF; let r_55 := fX6_get r_52 v_bF; let x_59 := w_24.2.1 + 1; LX9_translateAndTest_24 v_a v_b v_bF r_2 n9 (r_55, x_59, w_24.2.1)) else ((w_24.1, w_24.2.1, w_24.2.2)))
noncomputable def fX9_translateAndTest (v_i : Int32) (v_a : Int32) (v_b : Int32) (v_fault : Int32) (v_word : Int64) (v_bF : (Nat → Int32)) (v_kF : (Nat → Int32)) (v_rF : (Nat → Int32)) : (Int32 × Int64 × (Nat → Int32)) :=
  let p_2 := fX9_demandTold 0 v_i v_a v_b v_fault v_word v_bF v_kF
  let r_2 := p_2.1
  let u_2 := p_2.2
  let r_10 := fX5_fine u_2
  if r_10 = 0 then ((u_2, v_word, v_rF)) else (let g_24 := LX9_translateAndTest_24 v_a v_b v_bF r_2 (msU r_2 0 + 1) (0, 0, 0); let m_95 : (Nat → Int32) := (if g_24.1 = 0 then (v_rF) else (let u_83 := fX5_setLastAddress 1 (v_a + g_24.2.2) v_rF; let u_92 := fX5_setLastByte 2 g_24.1 u_83; u_92)); let m_122 : Int32 := (if g_24.1 = 0 then (0) else (if g_24.2.2 = (r_2 - 1) then (2) else (1))); let u_122 := fX7_setCondition m_122 v_word; (u_2, u_122, m_95))
abbrev wX9_translateAndTest (cI cB : ClassId) (a_st a_ins a_mc a_me a_ps a_by a_ks a_rg : Nat) (v_op : Int32) (v_i : Int32) (v_r : Int32) (v_s : Int32) (v_a : Int32) (v_b : Int32) (v_fault : Int32) (v_word : Int64) (v_bF : (Nat → Int32)) (v_kF : (Nat → Int32)) (v_rF : (Nat → Int32)) : va_W := [(a_st, .inr (9, [.ref a_mc, .ref a_ins, .ref a_me])), (a_ins, .inr (4, [.ref a_mc, .ref a_me, .int v_op, .int v_i, .int v_r, .int v_s, .int v_a, .int v_b])), (a_mc, .inr (5, [.ref a_me, .ref a_ps, .ref a_rg, .int v_fault])), (a_me, .inr (6, [.ref a_by, .ref a_ks])), (a_ps, .inr (7, [.long v_word])), (a_by, .inl (cB, 8192, .inl v_bF)), (a_ks, .inl (cI, 4, .inl v_kF)), (a_rg, .inl (cI, 16, .inl v_rF))]
abbrev rmX9_translateAndTest : Room := { frames := 3, cells := 0, slots := 0, locals := 73 }
abbrev qX9_translateAndTest (D : va_G) (cI cB : ClassId) (a_st a_ins a_mc a_me a_ps a_by a_ks a_rg : Nat) (v_op : Int32) (v_i : Int32) (v_r : Int32) (v_s : Int32) (v_a : Int32) (v_b : Int32) (v_fault : Int32) (v_word : Int64) (v_bF : (Nat → Int32)) (v_kF : (Nat → Int32)) (v_rF : (Nat → Int32)) : (Nat → Prop) → Array Value → State → Outcome → State → Prop := fun A9 => va_Qv (fun (u9 : (Int32 × Int64 × (Nat → Int32))) => u9 = fX9_translateAndTest v_i v_a v_b v_fault v_word v_bF v_kF v_rF) (fun u9 t9 => atW D (TYS cI cB) A9 (wX9_translateAndTest cI cB a_st a_ins a_mc a_me a_ps a_by a_ks a_rg v_op v_i v_r v_s v_a v_b u9.1 u9.2.1 v_bF v_kF u9.2.2) t9) A9
set_option maxHeartbeats 4000000 in
set_option maxRecDepth 100000 in
theorem kX9_translateAndTest (l : Launch) (D : va_G) (cI cB : ClassId) (a_st a_ins a_mc a_me a_ps a_by a_ks a_rg : Nat) (sz : Nat) (v_op : Int32) (v_i : Int32) (v_r : Int32) (v_s : Int32) (v_a : Int32) (v_b : Int32) (v_fault : Int32) (v_word : Int64) (v_bF : (Nat → Int32)) (v_kF : (Nat → Int32)) (v_rF : (Nat → Int32)) : MetW l yX9_translateAndTest (WK yX9_translateAndTest cX9_translateAndTest 5 none) rmX9_translateAndTest D (TYS cI cB) (wX9_translateAndTest cI cB a_st a_ins a_mc a_me a_ps a_by a_ks a_rg v_op v_i v_r v_s v_a v_b v_fault v_word v_bF v_kF v_rF) sz [.ref a_st] (qX9_translateAndTest D cI cB a_st a_ins a_mc a_me a_ps a_by a_ks a_rg v_op v_i v_r v_s v_a v_b v_fault v_word v_bF v_kF v_rF) 0 0 := by
  refine met_std (by decide) rfl (Nat.le_of_ble_eq_true rfl) ?_
  intro p e s m below meth c A ls H hx hb hr hml hown hts hlocks hA hP hK hD hS hNW hl
  have hl : lv_has ls 5 [(0, .ref a_st)] := hl
  have q_0 := hts _ (List.mem_cons_of_mem _ wd_435)
  have q_1 := hts _ (List.mem_cons_of_mem _ wd_437)
  have q_2 := hts _ (List.mem_cons_of_mem _ wd_436)
  have n_0 := hNW.f (A := ([.ref a_st] : List Value).toArray) ("MainframeCore$Strings", 26, "MainframeCore$Instruction", "a", "I", "MainframeCore") (by decide +kernel)
  have n_1 := hNW.f (A := ([.ref a_st] : List Value).toArray) ("MainframeCore$Strings", 56, "MainframeCore$Machine", "psw", "LMainframeCore$Psw;", "MainframeCore") (by decide +kernel)
  refine lv_aload_n hx hb dX9_translateAndTest_0 rfl (lv_at hl 0 rfl) ?_
  refine lv_iconst (v := 0) hx hb dX9_translateAndTest_1 (by decide) ?_
  have hPc : va_P D vwCl (wX9_demandTold cI cB a_st a_ins a_mc a_me a_ps a_by a_ks a_rg v_op v_i v_r v_s v_a v_b v_fault v_word v_bF v_kF) H := hP.sub [0, 1, 2, 3, 4, 5, 6] rfl
  have hDc : va_D A (wX9_demandTold cI cB a_st a_ins a_mc a_me a_ps a_by a_ks a_rg v_op v_i v_r v_s v_a v_b v_fault v_word v_bF v_kF) := hD.sub [0, 1, 2, 3, 4, 5, 6] (by decide) rfl
  have hFc := va_free (wc := (wX9_demandTold cI cB a_st a_ins a_mc a_me a_ps a_by a_ks a_rg v_op v_i v_r v_s v_a v_b v_fault v_word v_bF v_kF)) hD hS hA [0, 1, 2, 3, 4, 5, 6] rfl
  refine va_calli (va_runV (As := [.int 0]) (rest := []) ⟨hx, hb, hml, hown, hts⟩ (kX9_demandTold l D cI cB a_st a_ins a_mc a_me a_ps a_by a_ks a_rg H.size v_op v_i v_r v_s v_a v_b v_fault v_word v_bF v_kF 0) (cwV 1 hts (gd_V wd_476 wd_477 wd_478 wd_455 wd_475) rfl rfl rfl hdX9_demandTold ⟨Nat.le_of_ble_eq_true rfl, Nat.le_of_ble_eq_true rfl⟩) (preV_std (ci := 9) (q0 := 0) hPc hK hDc hNW rfl rfl) rfl rfl hl.1 rfl (lv_room (Nat.le_of_ble_eq_true rfl)) dX9_translateAndTest_2 ⟨Nat.zero_le _, Nat.zero_le _⟩) hS (fun q _ h => hFc q h) hFc (fun r_2 u_2 t9 H1 locs ht9 hvm9 hw9 hB9 hz9 hk9 hS => ?_)
  obtain ⟨er_2, eu_2⟩ := hw9
  obtain ⟨hP, hD⟩ := back_std (w1 := (wX9_demandTold cI cB a_st a_ins a_mc a_me a_ps a_by a_ks a_rg v_op v_i v_r v_s v_a v_b u_2 v_word v_bF v_kF)) (w2 := (wX9_translateAndTest cI cB a_st a_ins a_mc a_me a_ps a_by a_ks a_rg v_op v_i v_r v_s v_a v_b u_2 v_word v_bF v_kF v_rF)) (wr := [(a_rg, .inl (cI, 16, .inl v_rF))]) hP hD [0, 1, 2, 3, 4, 5, 6] [7] [1, 2, 3, 4, 5, 6, 7, 0] rfl rfl (by decide) (by decide) hk9 hFc hB9 ht9 (by decide) rfl
  clear hB9 hk9 hz9 hvm9 ht9 hFc hPc hDc
  generalize H1 = H at hP hS ⊢
  refine lv_istore_n (lv' := [(1, .int r_2), (0, .ref a_st)]) hx hb dX9_translateAndTest_5 rfl hl (by decide) rfl (fun ls hl => ?_)
  refine lv_aload_n hx hb dX9_translateAndTest_6 rfl (lv_at hl 1 rfl) ?_
  refine va_get (D := D) (ci := 9) (v := .ref a_mc) (C := RX9) (T := TX9) (N := 3) hx hb hts in_X9 hown hK hP 0 rfl rfl 0 (by decide) q_0 (fun _ h9 => h9) rfl dX9_translateAndTest_7 ?_
  have hPc : va_P D vwCl (wX5_fine cI cB a_mc a_me a_ps a_rg u_2) H := hP.sub [2] rfl
  have hDc : va_D A (wX5_fine cI cB a_mc a_me a_ps a_rg u_2) := hD.sub [2] (by decide) rfl
  have hFc := va_free (wc := (wX5_fine cI cB a_mc a_me a_ps a_rg u_2)) hD hS hA [2] rfl
  refine va_calli (va_runV (As := []) (rest := []) ⟨hx, hb, hml, hown, hts⟩ (kX5_fine l D cI cB a_mc a_me a_ps a_rg H.size u_2 ) (cwV 0 hts (gd_V wd_439 wd_73 wd_74 wd_24 wd_66) rfl rfl rfl hdX5_fine ⟨Nat.le_of_ble_eq_true rfl, Nat.le_of_ble_eq_true rfl⟩) (preV_std (ci := 5) (q0 := 0) hPc hK hDc hNW rfl rfl) rfl rfl hl.1 rfl (lv_room (Nat.le_of_ble_eq_true rfl)) dX9_translateAndTest_10 ⟨Nat.zero_le _, Nat.zero_le _⟩) hS (fun q _ h => hFc q h) hFc (fun r_10 u_10 t9 H1 locs ht9 hvm9 hw9 hB9 hz9 hk9 hS => ?_)
  have er_10 : r_10 = fX5_fine u_2 := hw9
  have zr_10 : r_10 = 0 ∨ r_10 = 1 := by rw [er_10]; exact zX5_fine _
  obtain ⟨hP, hD⟩ := back_std (w1 := (wX5_fine cI cB a_mc a_me a_ps a_rg u_2)) (w2 := (wX9_translateAndTest cI cB a_st a_ins a_mc a_me a_ps a_by a_ks a_rg v_op v_i v_r v_s v_a v_b u_2 v_word v_bF v_kF v_rF)) (wr := [(a_st, .inr (9, [.ref a_mc, .ref a_ins, .ref a_me])), (a_ins, .inr (4, [.ref a_mc, .ref a_me, .int v_op, .int v_i, .int v_r, .int v_s, .int v_a, .int v_b])), (a_me, .inr (6, [.ref a_by, .ref a_ks])), (a_ps, .inr (7, [.long v_word])), (a_by, .inl (cB, 8192, .inl v_bF)), (a_ks, .inl (cI, 4, .inl v_kF)), (a_rg, .inl (cI, 16, .inl v_rF))]) hP hD [2] [0, 1, 3, 4, 5, 6, 7] [0, 1, 7, 2, 3, 4, 5, 6] rfl rfl (by decide) (by decide) hk9 hFc hB9 ht9 (by decide) rfl
  clear hB9 hk9 hz9 hvm9 ht9 hFc hPc hDc
  generalize H1 = H at hP hS ⊢
  refine lv_if_ne (tgt := 17) hx hb dX9_translateAndTest_13 (by decide) (fun c_13 => ?_) (fun c_13 => ?_)
  · skip
    refine lv_iconst (v := 0) hx hb dX9_translateAndTest_17 (by decide) ?_
    refine lv_istore_n (lv' := [(2, .int 0), (1, .int r_2), (0, .ref a_st)]) hx hb dX9_translateAndTest_18 rfl hl (by decide) rfl (fun ls hl => ?_)
    refine lv_iconst (v := 0) hx hb dX9_translateAndTest_19 (by decide) ?_
    refine lv_istore_n (lv' := [(3, .int 0), (2, .int 0), (1, .int r_2), (0, .ref a_st)]) hx hb dX9_translateAndTest_20 rfl hl (by decide) rfl (fun ls hl => ?_)
    refine lv_iconst (v := 0) hx hb dX9_translateAndTest_21 (by decide) ?_
    refine lv_istore (lv' := [(4, .int 0), (3, .int 0), (2, .int 0), (1, .int r_2), (0, .ref a_st)]) hx hb dX9_translateAndTest_22 hl (by decide) rfl (fun ls hl => ?_)
    obtain ⟨g_24, eg_24⟩ : ∃ z : (Int32 × Int32 × Int32), z = LX9_translateAndTest_24 v_a v_b v_bF r_2 (msU r_2 0 + 1) (0, 0, 0) := ⟨_, rfl⟩
    have K_24_0 : ∀ (H : Heap) (locs : List Loc), va_P D vwCl (wX9_translateAndTest cI cB a_st a_ins a_mc a_me a_ps a_by a_ks a_rg v_op v_i v_r v_s v_a v_b u_2 v_word v_bF v_kF v_rF) H → va_D A (wX9_translateAndTest cI cB a_st a_ins a_mc a_me a_ps a_by a_ks a_rg v_op v_i v_r v_s v_a v_b u_2 v_word v_bF v_kF v_rF) → va_S A s.heap H locs → ∀ (ls : Array Slot), lv_has ls 5 [(0, .ref a_st), (1, .int r_2), (2, .int g_24.1), (3, .int g_24.2.2), (4, .int g_24.2.1)] → W p l e rmX9_translateAndTest s m ([.ref a_st] : List Value).toArray below meth c H locs 0 0 (MQ below (qX9_translateAndTest D cI cB a_st a_ins a_mc a_me a_ps a_by a_ks a_rg v_op v_i v_r v_s v_a v_b v_fault v_word v_bF v_kF v_rF A) ([.ref a_st] : List Value).toArray s 0 0 A) (F0 m 65 ls []) := by
      intro H locs hP hD hS ls hl
      refine lv_iload_n hx hb dX9_translateAndTest_65 rfl (lv_at hl 2 rfl) ?_
      have J_95 : ∀ (m_95 : (Nat → Int32)), m_95 = (if g_24.1 = 0 then (v_rF) else (let u_83 := fX5_setLastAddress 1 (v_a + g_24.2.2) v_rF; let u_92 := fX5_setLastByte 2 g_24.1 u_83; u_92)) → ∀ (H : Heap) (locs : List Loc), va_P D vwCl (wX9_translateAndTest cI cB a_st a_ins a_mc a_me a_ps a_by a_ks a_rg v_op v_i v_r v_s v_a v_b u_2 v_word v_bF v_kF m_95) H → va_D A (wX9_translateAndTest cI cB a_st a_ins a_mc a_me a_ps a_by a_ks a_rg v_op v_i v_r v_s v_a v_b u_2 v_word v_bF v_kF m_95) → va_S A s.heap H locs → ∀ (ls : Array Slot), lv_has ls 5 [(0, .ref a_st), (1, .int r_2), (2, .int g_24.1), (3, .int g_24.2.2), (4, .int g_24.2.1)] → W p l e rmX9_translateAndTest s m ([.ref a_st] : List Value).toArray below meth c H locs 0 0 (MQ below (qX9_translateAndTest D cI cB a_st a_ins a_mc a_me a_ps a_by a_ks a_rg v_op v_i v_r v_s v_a v_b v_fault v_word v_bF v_kF v_rF A) ([.ref a_st] : List Value).toArray s 0 0 A) (F0 m 95 ls []) := by
        intro m_95 em_95 H locs hP hD hS ls hl
        refine lv_aload_n hx hb dX9_translateAndTest_95 rfl (lv_at hl 0 rfl) ?_
        refine va_get (D := D) (ci := 9) (v := .ref a_mc) (C := RX9) (T := TX9) (N := 3) hx hb hts in_X9 hown hK hP 0 rfl rfl 0 (by decide) q_0 (fun _ h9 => h9) rfl dX9_translateAndTest_96 ?_
        refine va_getN (D := D) (ci := 5) (v := .ref a_ps) (C := RX5) (T := TX5) (N := 4) hx hb hts in_X5 hown hK hP 2 rfl rfl 1 (by decide) n_1 (fun _ h9 => h9) rfl dX9_translateAndTest_99 ?_
        refine lv_iload_n hx hb dX9_translateAndTest_102 rfl (lv_at hl 2 rfl) ?_
        have J_122 : ∀ (m_122 : Int32), m_122 = (if g_24.1 = 0 then (0) else (if g_24.2.2 = (r_2 - 1) then (2) else (1))) → ∀ (H : Heap) (locs : List Loc), va_P D vwCl (wX9_translateAndTest cI cB a_st a_ins a_mc a_me a_ps a_by a_ks a_rg v_op v_i v_r v_s v_a v_b u_2 v_word v_bF v_kF m_95) H → va_D A (wX9_translateAndTest cI cB a_st a_ins a_mc a_me a_ps a_by a_ks a_rg v_op v_i v_r v_s v_a v_b u_2 v_word v_bF v_kF m_95) → va_S A s.heap H locs → ∀ (ls : Array Slot), lv_has ls 5 [(0, .ref a_st), (1, .int r_2), (2, .int g_24.1), (3, .int g_24.2.2), (4, .int g_24.2.1)] → W p l e rmX9_translateAndTest s m ([.ref a_st] : List Value).toArray below meth c H locs 0 0 (MQ below (qX9_translateAndTest D cI cB a_st a_ins a_mc a_me a_ps a_by a_ks a_rg v_op v_i v_r v_s v_a v_b v_fault v_word v_bF v_kF v_rF A) ([.ref a_st] : List Value).toArray s 0 0 A) (F0 m 122 ls [.int m_122, .ref a_ps]) := by
          intro m_122 em_122 H locs hP hD hS ls hl
          have hPc : va_P D vwCl (wX7_setCondition cI cB a_ps v_word) H := hP.sub [4] rfl
          have hDc : va_D A (wX7_setCondition cI cB a_ps v_word) := hD.sub [4] (by decide) rfl
          have hFc := va_free (wc := (wX7_setCondition cI cB a_ps v_word)) hD hS hA [4] rfl
          refine va_callv (va_runV (As := [.int m_122]) (rest := []) ⟨hx, hb, hml, hown, hts⟩ (kX7_setCondition l D cI cB a_ps H.size v_word m_122) (cwV 1 hts (gd_V wd_444 wd_241 wd_242 wd_15 wd_236) rfl rfl rfl hdX7_setCondition ⟨Nat.le_of_ble_eq_true rfl, Nat.le_of_ble_eq_true rfl⟩) (preV_std (ci := 7) (q0 := 0) hPc hK hDc hNW rfl rfl) rfl rfl hl.1 rfl (lv_room (Nat.le_of_ble_eq_true rfl)) dX9_translateAndTest_122 ⟨Nat.zero_le _, Nat.zero_le _⟩) hS (fun q _ h => hFc q h) hFc (fun u_122 t9 H1 locs ht9 hvm9 hw9 hB9 hz9 hk9 hS => ?_)
          have eu_122 : u_122 = fX7_setCondition m_122 v_word := hw9
          obtain ⟨hP, hD⟩ := back_std (w1 := (wX7_setCondition cI cB a_ps u_122)) (w2 := (wX9_translateAndTest cI cB a_st a_ins a_mc a_me a_ps a_by a_ks a_rg v_op v_i v_r v_s v_a v_b u_2 u_122 v_bF v_kF m_95)) (wr := [(a_st, .inr (9, [.ref a_mc, .ref a_ins, .ref a_me])), (a_ins, .inr (4, [.ref a_mc, .ref a_me, .int v_op, .int v_i, .int v_r, .int v_s, .int v_a, .int v_b])), (a_mc, .inr (5, [.ref a_me, .ref a_ps, .ref a_rg, .int u_2])), (a_me, .inr (6, [.ref a_by, .ref a_ks])), (a_by, .inl (cB, 8192, .inl v_bF)), (a_ks, .inl (cI, 4, .inl v_kF)), (a_rg, .inl (cI, 16, .inl m_95))]) hP hD [4] [0, 1, 2, 3, 5, 6, 7] [0, 1, 2, 3, 7, 4, 5, 6] rfl rfl (by decide) (by decide) hk9 hFc hB9 ht9 (by decide) rfl
          clear hB9 hk9 hz9 hvm9 ht9 hFc hPc hDc
          generalize H1 = H at hP hS ⊢
          have hf9 : (u_2, u_122, m_95) = fX9_translateAndTest v_i v_a v_b v_fault v_word v_bF v_kF v_rF := by subst em_122; subst em_95; simp only [fX9_translateAndTest, ← er_2, ← eu_2, ← er_10, ← eg_24, ← eu_122, if_neg c_13]
          exact W.vret hx hb hr (fun t9 ht9 hW9 => ⟨⟨(u_2, u_122, m_95), rfl, hf9, ⟨by rw [ht9]; exact hP, va_K.moved hW9.alike hK, hD⟩⟩, hS.F ht9⟩) hS.2.2 dX9_translateAndTest_125
        refine lv_if_ne (tgt := 110) hx hb dX9_translateAndTest_103 (by decide) (fun c_103 => ?_) (fun c_103 => ?_)
        · skip
          refine lv_iload_n hx hb dX9_translateAndTest_110 rfl (lv_at hl 3 rfl) ?_
          refine lv_iload_n hx hb dX9_translateAndTest_111 rfl (lv_at hl 1 rfl) ?_
          refine lv_iconst (v := 1) hx hb dX9_translateAndTest_112 (by decide) ?_
          refine lv_isub hx hb dX9_translateAndTest_113 ?_
          refine lv_icmp_ne (tgt := 121) hx hb dX9_translateAndTest_114 (by decide) (fun c_114 => ?_) (fun c_114 => ?_)
          · skip
            refine lv_iconst (v := 1) hx hb dX9_translateAndTest_121 (by decide) ?_
            exact J_122 1 (by simp only [if_neg c_103, if_neg c_114]) _ _ hP hD hS ls (lv_sub hl [0, 1, 2, 3, 4] rfl)
          · skip
            refine lv_iconst (v := 2) hx hb dX9_translateAndTest_117 (by decide) ?_
            refine lv_goto (tgt := 122) hx hb dX9_translateAndTest_118 (by decide) ?_
            exact J_122 2 (by simp only [if_neg c_103, if_pos c_114]) _ _ hP hD hS ls (lv_sub hl [0, 1, 2, 3, 4] rfl)
        · skip
          refine lv_iconst (v := 0) hx hb dX9_translateAndTest_106 (by decide) ?_
          refine lv_goto (tgt := 122) hx hb dX9_translateAndTest_107 (by decide) ?_
          exact J_122 0 (by simp only [if_pos c_103]) _ _ hP hD hS ls (lv_sub hl [0, 1, 2, 3, 4] rfl)
      refine lv_if_eq (tgt := 95) hx hb dX9_translateAndTest_66 (by decide) (fun c_66 => ?_) (fun c_66 => ?_)
      · skip
        exact J_95 v_rF (by simp only [if_pos c_66]) _ _ hP hD hS ls (lv_sub hl [0, 1, 2, 3, 4] rfl)
      · skip
        refine lv_aload_n hx hb dX9_translateAndTest_69 rfl (lv_at hl 0 rfl) ?_
        refine va_get (D := D) (ci := 9) (v := .ref a_mc) (C := RX9) (T := TX9) (N := 3) hx hb hts in_X9 hown hK hP 0 rfl rfl 0 (by decide) q_0 (fun _ h9 => h9) rfl dX9_translateAndTest_70 ?_
        refine lv_iconst (v := 1) hx hb dX9_translateAndTest_73 (by decide) ?_
        refine lv_aload_n hx hb dX9_translateAndTest_74 rfl (lv_at hl 0 rfl) ?_
        refine va_get (D := D) (ci := 9) (v := .ref a_ins) (C := RX9) (T := TX9) (N := 3) hx hb hts in_X9 hown hK hP 0 rfl rfl 1 (by decide) q_2 (fun _ h9 => h9) rfl dX9_translateAndTest_75 ?_
        refine va_getN (D := D) (ci := 4) (v := .int v_a) (C := RX4) (T := TX4) (N := 8) hx hb hts in_X4 hown hK hP 1 rfl rfl 6 (by decide) n_0 (fun _ h9 => h9) rfl dX9_translateAndTest_78 ?_
        refine lv_iload_n hx hb dX9_translateAndTest_81 rfl (lv_at hl 3 rfl) ?_
        refine lv_iadd hx hb dX9_translateAndTest_82 ?_
        have hPc : va_P D vwCl (wX5_setLastAddress cI cB a_mc a_me a_ps a_rg u_2 v_rF) H := hP.sub [2, 7] rfl
        have hDc : va_D A (wX5_setLastAddress cI cB a_mc a_me a_ps a_rg u_2 v_rF) := hD.sub [2, 7] (by decide) rfl
        have hFc := va_free (wc := (wX5_setLastAddress cI cB a_mc a_me a_ps a_rg u_2 v_rF)) hD hS hA [2, 7] rfl
        refine va_callv (va_runV (As := [.int 1, .int (v_a + g_24.2.2)]) (rest := []) ⟨hx, hb, hml, hown, hts⟩ (kX5_setLastAddress l D cI cB a_mc a_me a_ps a_rg H.size u_2 v_rF 1 (v_a + g_24.2.2)) (cwV 2 hts (gd_V wd_480 wd_321 wd_322 wd_24 wd_310) rfl rfl rfl hdX5_setLastAddress ⟨Nat.le_of_ble_eq_true rfl, Nat.le_of_ble_eq_true rfl⟩) (preV_std (ci := 5) (q0 := 0) hPc hK hDc hNW rfl rfl) rfl rfl hl.1 rfl (lv_room (Nat.le_of_ble_eq_true rfl)) dX9_translateAndTest_83 ⟨Nat.zero_le _, Nat.zero_le _⟩) hS (fun q _ h => hFc q h) hFc (fun u_83 t9 H1 locs ht9 hvm9 hw9 hB9 hz9 hk9 hS => ?_)
        have eu_83 : u_83 = fX5_setLastAddress 1 (v_a + g_24.2.2) v_rF := hw9
        obtain ⟨hP, hD⟩ := back_std (w1 := (wX5_setLastAddress cI cB a_mc a_me a_ps a_rg u_2 u_83)) (w2 := (wX9_translateAndTest cI cB a_st a_ins a_mc a_me a_ps a_by a_ks a_rg v_op v_i v_r v_s v_a v_b u_2 v_word v_bF v_kF u_83)) (wr := [(a_st, .inr (9, [.ref a_mc, .ref a_ins, .ref a_me])), (a_ins, .inr (4, [.ref a_mc, .ref a_me, .int v_op, .int v_i, .int v_r, .int v_s, .int v_a, .int v_b])), (a_me, .inr (6, [.ref a_by, .ref a_ks])), (a_ps, .inr (7, [.long v_word])), (a_by, .inl (cB, 8192, .inl v_bF)), (a_ks, .inl (cI, 4, .inl v_kF))]) hP hD [2, 7] [0, 1, 3, 4, 5, 6] [0, 1, 6, 2, 3, 4, 5, 7] rfl rfl (by decide) (by decide) hk9 hFc hB9 ht9 (by decide) rfl
        clear hB9 hk9 hz9 hvm9 ht9 hFc hPc hDc
        generalize H1 = H at hP hS ⊢
        refine lv_aload_n hx hb dX9_translateAndTest_86 rfl (lv_at hl 0 rfl) ?_
        refine va_get (D := D) (ci := 9) (v := .ref a_mc) (C := RX9) (T := TX9) (N := 3) hx hb hts in_X9 hown hK hP 0 rfl rfl 0 (by decide) q_0 (fun _ h9 => h9) rfl dX9_translateAndTest_87 ?_
        refine lv_iconst (v := 2) hx hb dX9_translateAndTest_90 (by decide) ?_
        refine lv_iload_n hx hb dX9_translateAndTest_91 rfl (lv_at hl 2 rfl) ?_
        have hPc : va_P D vwCl (wX5_setLastByte cI cB a_mc a_me a_ps a_rg u_2 u_83) H := hP.sub [2, 7] rfl
        have hDc : va_D A (wX5_setLastByte cI cB a_mc a_me a_ps a_rg u_2 u_83) := hD.sub [2, 7] (by decide) rfl
        have hFc := va_free (wc := (wX5_setLastByte cI cB a_mc a_me a_ps a_rg u_2 u_83)) hD hS hA [2, 7] rfl
        refine va_callv (va_runV (As := [.int 2, .int g_24.1]) (rest := []) ⟨hx, hb, hml, hown, hts⟩ (kX5_setLastByte l D cI cB a_mc a_me a_ps a_rg H.size u_2 u_83 2 g_24.1) (cwV 2 hts (gd_V wd_481 wd_88 wd_89 wd_24 wd_81) rfl rfl rfl hdX5_setLastByte ⟨Nat.le_of_ble_eq_true rfl, Nat.le_of_ble_eq_true rfl⟩) (preV_std (ci := 5) (q0 := 0) hPc hK hDc hNW rfl rfl) rfl rfl hl.1 rfl (lv_room (Nat.le_of_ble_eq_true rfl)) dX9_translateAndTest_92 ⟨Nat.zero_le _, Nat.zero_le _⟩) hS (fun q _ h => hFc q h) hFc (fun u_92 t9 H1 locs ht9 hvm9 hw9 hB9 hz9 hk9 hS => ?_)
        have eu_92 : u_92 = fX5_setLastByte 2 g_24.1 u_83 := hw9
        obtain ⟨hP, hD⟩ := back_std (w1 := (wX5_setLastByte cI cB a_mc a_me a_ps a_rg u_2 u_92)) (w2 := (wX9_translateAndTest cI cB a_st a_ins a_mc a_me a_ps a_by a_ks a_rg v_op v_i v_r v_s v_a v_b u_2 v_word v_bF v_kF u_92)) (wr := [(a_st, .inr (9, [.ref a_mc, .ref a_ins, .ref a_me])), (a_ins, .inr (4, [.ref a_mc, .ref a_me, .int v_op, .int v_i, .int v_r, .int v_s, .int v_a, .int v_b])), (a_me, .inr (6, [.ref a_by, .ref a_ks])), (a_ps, .inr (7, [.long v_word])), (a_by, .inl (cB, 8192, .inl v_bF)), (a_ks, .inl (cI, 4, .inl v_kF))]) hP hD [2, 7] [0, 1, 3, 4, 5, 6] [0, 1, 6, 2, 3, 4, 5, 7] rfl rfl (by decide) (by decide) hk9 hFc hB9 ht9 (by decide) rfl
        clear hB9 hk9 hz9 hvm9 ht9 hFc hPc hDc
        generalize H1 = H at hP hS ⊢
        exact J_95 u_92 (by simp only [← eu_83, ← eu_92, if_neg c_66]) _ _ hP hD hS ls (lv_sub hl [0, 1, 2, 3, 4] rfl)
    have lp_24 : ∀ (n9 : Nat) (w_24 : (Int32 × Int32 × Int32)), msU r_2 w_24.2.1 < n9 → LX9_translateAndTest_24 v_a v_b v_bF r_2 n9 w_24 = g_24 → ∀ (H : Heap) (locs : List Loc), va_P D vwCl (wX9_translateAndTest cI cB a_st a_ins a_mc a_me a_ps a_by a_ks a_rg v_op v_i v_r v_s v_a v_b u_2 v_word v_bF v_kF v_rF) H → va_D A (wX9_translateAndTest cI cB a_st a_ins a_mc a_me a_ps a_by a_ks a_rg v_op v_i v_r v_s v_a v_b u_2 v_word v_bF v_kF v_rF) → va_S A s.heap H locs → ∀ (ls : Array Slot), lv_has ls 5 [(0, .ref a_st), (1, .int r_2), (2, .int w_24.1), (3, .int w_24.2.2), (4, .int w_24.2.1)] → W p l e rmX9_translateAndTest s m ([.ref a_st] : List Value).toArray below meth c H locs 0 0 (MQ below (qX9_translateAndTest D cI cB a_st a_ins a_mc a_me a_ps a_by a_ks a_rg v_op v_i v_r v_s v_a v_b v_fault v_word v_bF v_kF v_rF A) ([.ref a_st] : List Value).toArray s 0 0 A) (F0 m 24 ls []) := by
      intro n9
      induction n9 with
      | zero => intro w_24 hm9; exact absurd hm9 (Nat.not_lt_zero _)
      | succ n9 ih =>
        intro w_24 hm9 hL9 H locs hP hD hS ls hl
        refine lv_iload hx hb dX9_translateAndTest_24 (lv_at hl 4 rfl) ?_
        refine lv_iload_n hx hb dX9_translateAndTest_26 rfl (lv_at hl 1 rfl) ?_
        refine lv_icmp_ge (tgt := 65) hx hb dX9_translateAndTest_27 (by decide) (fun c_27 => ?_) (fun c_27 => ?_)
        · skip
          have hg9 : (w_24.1, w_24.2.1, w_24.2.2) = g_24 := by rw [← hL9]; simp only [LX9_translateAndTest_24, if_pos c_27]
          subst hg9
          exact K_24_0 _ _ hP hD hS ls (lv_sub hl [0, 1, 2, 3, 4] rfl)
        · skip
          refine lv_iload_n hx hb dX9_translateAndTest_30 rfl (lv_at hl 2 rfl) ?_
          refine lv_if_ne (tgt := 65) hx hb dX9_translateAndTest_31 (by decide) (fun c_31 => ?_) (fun c_31 => ?_)
          · skip
            have hg9 : (w_24.1, w_24.2.1, w_24.2.2) = g_24 := by rw [← hL9]; simp only [LX9_translateAndTest_24, if_neg c_27, if_neg c_31]
            subst hg9
            exact K_24_0 _ _ hP hD hS ls (lv_sub hl [0, 1, 2, 3, 4] rfl)
          · skip
            refine lv_iload hx hb dX9_translateAndTest_34 (lv_at hl 4 rfl) ?_
            refine lv_istore_n (lv' := [(3, .int w_24.2.1), (0, .ref a_st), (1, .int r_2), (2, .int w_24.1), (4, .int w_24.2.1)]) hx hb dX9_translateAndTest_36 rfl hl (by decide) rfl (fun ls hl => ?_)
            refine lv_aload_n hx hb dX9_translateAndTest_37 rfl (lv_at hl 1 rfl) ?_
            refine va_get (D := D) (ci := 9) (v := .ref a_me) (C := RX9) (T := TX9) (N := 3) hx hb hts in_X9 hown hK hP 0 rfl rfl 2 (by decide) q_1 (fun _ h9 => h9) rfl dX9_translateAndTest_38 ?_
            refine lv_aload_n hx hb dX9_translateAndTest_41 rfl (lv_at hl 1 rfl) ?_
            refine lv_aload_n hx hb dX9_translateAndTest_42 rfl (lv_at hl 1 rfl) ?_
            refine va_get (D := D) (ci := 9) (v := .ref a_ins) (C := RX9) (T := TX9) (N := 3) hx hb hts in_X9 hown hK hP 0 rfl rfl 1 (by decide) q_2 (fun _ h9 => h9) rfl dX9_translateAndTest_43 ?_
            refine va_getN (D := D) (ci := 4) (v := .int v_a) (C := RX4) (T := TX4) (N := 8) hx hb hts in_X4 hown hK hP 1 rfl rfl 6 (by decide) n_0 (fun _ h9 => h9) rfl dX9_translateAndTest_46 ?_
            refine lv_iload hx hb dX9_translateAndTest_49 (lv_at hl 4 rfl) ?_
            refine lv_iadd hx hb dX9_translateAndTest_51 ?_
            have hPc : va_P D vwCl (wX9_toldBy cI cB a_st a_ins a_mc a_me a_by a_ks v_op v_i v_r v_s v_a v_b v_bF) H := hP.sub [0, 1, 3, 5] rfl
            have hDc : va_D A (wX9_toldBy cI cB a_st a_ins a_mc a_me a_by a_ks v_op v_i v_r v_s v_a v_b v_bF) := hD.sub [0, 1, 3, 5] (by decide) rfl
            have hFc := va_free (wc := (wX9_toldBy cI cB a_st a_ins a_mc a_me a_by a_ks v_op v_i v_r v_s v_a v_b v_bF)) hD hS hA [0, 1, 3, 5] rfl
            refine va_calli (va_runV (As := [.int (v_a + w_24.2.1)]) (rest := [.ref a_me]) ⟨hx, hb, hml, hown, hts⟩ (kX9_toldBy l D cI cB a_st a_ins a_mc a_me a_by a_ks H.size v_op v_i v_r v_s v_a v_b v_bF (v_a + w_24.2.1)) (cwV 1 hts (gd_V wd_472 wd_473 wd_474 wd_455 wd_470) rfl rfl rfl hdX9_toldBy ⟨Nat.le_of_ble_eq_true rfl, Nat.le_of_ble_eq_true rfl⟩) (preV_std (ci := 9) (q0 := 0) hPc hK hDc hNW rfl rfl) rfl rfl hl.1 rfl (lv_room (Nat.le_of_ble_eq_true rfl)) dX9_translateAndTest_52 ⟨Nat.zero_le _, Nat.zero_le _⟩) hS (fun q _ h => hFc q h) hFc (fun r_52 u_52 t9 H1 locs ht9 hvm9 hw9 hB9 hz9 hk9 hS => ?_)
            have er_52 : r_52 = fX9_toldBy (v_a + w_24.2.1) v_b v_bF := hw9
            obtain ⟨hP, hD⟩ := back_std (w1 := (wX9_toldBy cI cB a_st a_ins a_mc a_me a_by a_ks v_op v_i v_r v_s v_a v_b v_bF)) (w2 := (wX9_translateAndTest cI cB a_st a_ins a_mc a_me a_ps a_by a_ks a_rg v_op v_i v_r v_s v_a v_b u_2 v_word v_bF v_kF v_rF)) (wr := [(a_mc, .inr (5, [.ref a_me, .ref a_ps, .ref a_rg, .int u_2])), (a_ps, .inr (7, [.long v_word])), (a_ks, .inl (cI, 4, .inl v_kF)), (a_rg, .inl (cI, 16, .inl v_rF))]) hP hD [0, 1, 3, 5] [2, 4, 6, 7] [4, 5, 0, 6, 1, 7, 2, 3] rfl rfl (by decide) (by decide) hk9 hFc hB9 ht9 (by decide) rfl
            clear hB9 hk9 hz9 hvm9 ht9 hFc hPc hDc
            generalize H1 = H at hP hS ⊢
            have hPc : va_P D vwCl (wX6_get cI cB a_me a_by a_ks v_bF) H := hP.sub [3, 5] rfl
            have hDc : va_D A (wX6_get cI cB a_me a_by a_ks v_bF) := hD.sub [3, 5] (by decide) rfl
            have hFc := va_free (wc := (wX6_get cI cB a_me a_by a_ks v_bF)) hD hS hA [3, 5] rfl
            refine va_calli (va_runV (As := [.int r_52]) (rest := []) ⟨hx, hb, hml, hown, hts⟩ (kX6_get l D cI cB a_me a_by a_ks H.size v_bF r_52) (cwV 1 hts (gd_V wd_440 wd_109 wd_110 wd_78 wd_102) rfl rfl rfl hdX6_get ⟨Nat.le_of_ble_eq_true rfl, Nat.le_of_ble_eq_true rfl⟩) (preV_std (ci := 6) (q0 := 0) hPc hK hDc hNW rfl rfl) rfl rfl hl.1 rfl (lv_room (Nat.le_of_ble_eq_true rfl)) dX9_translateAndTest_55 ⟨Nat.zero_le _, Nat.zero_le _⟩) hS (fun q _ h => hFc q h) hFc (fun r_55 u_55 t9 H1 locs ht9 hvm9 hw9 hB9 hz9 hk9 hS => ?_)
            have er_55 : r_55 = fX6_get r_52 v_bF := hw9
            obtain ⟨hP, hD⟩ := back_std (w1 := (wX6_get cI cB a_me a_by a_ks v_bF)) (w2 := (wX9_translateAndTest cI cB a_st a_ins a_mc a_me a_ps a_by a_ks a_rg v_op v_i v_r v_s v_a v_b u_2 v_word v_bF v_kF v_rF)) (wr := [(a_st, .inr (9, [.ref a_mc, .ref a_ins, .ref a_me])), (a_ins, .inr (4, [.ref a_mc, .ref a_me, .int v_op, .int v_i, .int v_r, .int v_s, .int v_a, .int v_b])), (a_mc, .inr (5, [.ref a_me, .ref a_ps, .ref a_rg, .int u_2])), (a_ps, .inr (7, [.long v_word])), (a_ks, .inl (cI, 4, .inl v_kF)), (a_rg, .inl (cI, 16, .inl v_rF))]) hP hD [3, 5] [0, 1, 2, 4, 6, 7] [0, 1, 2, 6, 3, 7, 4, 5] rfl rfl (by decide) (by decide) hk9 hFc hB9 ht9 (by decide) rfl
            clear hB9 hk9 hz9 hvm9 ht9 hFc hPc hDc
            generalize H1 = H at hP hS ⊢
            refine lv_istore_n (lv' := [(2, .int r_55), (3, .int w_24.2.1), (0, .ref a_st), (1, .int r_2), (4, .int w_24.2.1)]) hx hb dX9_translateAndTest_58 rfl hl (by decide) rfl (fun ls hl => ?_)
            obtain ⟨x_59, ex_59⟩ : ∃ z : Int32, z = w_24.2.1 + 1 := ⟨_, rfl⟩
            refine lv_iinc (v := x_59) (lv' := [(4, .int x_59), (2, .int r_55), (3, .int w_24.2.1), (0, .ref a_st), (1, .int r_2)]) hx hb dX9_translateAndTest_59 hl (k := 4) rfl (by rw [ex_59]; rfl) (by decide) rfl (fun ls hl => ?_)
            refine lv_goto (tgt := 24) hx hb dX9_translateAndTest_62 (by decide) ?_
            exact ih (r_55, x_59, w_24.2.1) (by subst ex_59; subst er_55; subst er_52;  exact Nat.lt_of_lt_of_le (ms_up c_27) (Nat.le_of_lt_succ hm9)) (by rw [← hL9]; subst ex_59; simp only [LX9_translateAndTest_24, ← er_52, ← er_55, if_neg c_27, if_pos c_31]) _ _ hP hD hS ls (lv_sub hl [3, 4, 1, 2, 0] rfl)
    exact lp_24 (msU r_2 0 + 1) (0, 0, 0) (Nat.lt_succ_self _) eg_24.symm _ _ hP hD hS ls (lv_sub hl [4, 3, 2, 1, 0] rfl)
  · skip
    have hf9 : (u_2, v_word, v_rF) = fX9_translateAndTest v_i v_a v_b v_fault v_word v_bF v_kF v_rF := by simp only [fX9_translateAndTest, ← er_2, ← eu_2, ← er_10, if_pos c_13]
    exact W.vret hx hb hr (fun t9 ht9 hW9 => ⟨⟨(u_2, v_word, v_rF), rfl, hf9, ⟨by rw [ht9]; exact hP, va_K.moved hW9.alike hK, hD⟩⟩, hS.F ht9⟩) hS.2.2 dX9_translateAndTest_16
theorem hdX9_translateAndTest : yX9_translateAndTest.cls = RX9 ∧ yX9_translateAndTest.cls ≠ "java/lang/invoke/MethodHandle" ∧ yX9_translateAndTest.cls ≠ "java/lang/invoke/VarHandle" ∧ (parseMethodDescriptor yX9_translateAndTest.desc).map (fun d => d.parameters.length) = some 0 := by decide +kernel
