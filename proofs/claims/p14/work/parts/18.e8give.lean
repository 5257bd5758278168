noncomputable def LX1_give_38 (x2 : Int32) (v_dF : (Nat → Int32)) (x_5 : Int32) : Nat → ((Nat → Int32) × Int32) → ((Nat → Int32) × Int32)
  | 0, w_38 => w_38
  | n9 + 1, w_38 =>
    if x2 ≤ w_38.2 then ((w_38.1, w_38.2)) else (let r_55 := fX1_digit (2 * w_38.2) v_dF; let r_67 := fX1_digit ((2 * w_38.2) - 1) v_dF; let u_71 := fX6_set (x_5 - w_38.2) ((r_55 <<< (4 &&& 31)) ||| r_67) w_38.1; let x_74 := w_38.2 + 1; LX1_give_38 x2 v_dF x_5 n9 (u_71, x_74))
noncomputable def fX1_give (x1 : Int32) (x2 : Int32) (v_bF : (Nat → Int32)) (v_below : Int32) (v_dF : (Nat → Int32)) : (Nat → Int32) :=
  let x_5 := ((x1 + x2) - 1)
  let r_12 := fX1_digit 0 v_dF
  let m_31 : Int32 := (if v_below = 0 then (12) else (13))
  let u_32 := fX6_set x_5 ((r_12 <<< (4 &&& 31)) ||| m_31) v_bF
  let g_38 := LX1_give_38 x2 v_dF x_5 (msU x2 1 + 1) (u_32, 1)
  g_38.1
abbrev wX1_give (cI cB : ClassId) (a_me a_by a_ks a_d a_dg : Nat) (v_bF : (Nat → Int32)) (v_below : Int32) (v_dF : (Nat → Int32)) : va_W := [(a_me, .inr (6, [.ref a_by, .ref a_ks])), (a_by, .inl (cB, 8192, .inl v_bF)), (a_d, .inr (1, [.ref a_dg, .int v_below])), (a_dg, .inl (cI, 32, .inl v_dF))]
abbrev rmX1_give : Room := { frames := 1, cells := 0, slots := 0, locals := 22 }
abbrev qX1_give (D : va_G) (cI cB : ClassId) (a_me a_by a_ks a_d a_dg : Nat) (v_bF : (Nat → Int32)) (v_below : Int32) (v_dF : (Nat → Int32)) (x1 : Int32) (x2 : Int32) : (Nat → Prop) → Array Value → State → Outcome → State → Prop := fun A9 => va_Qv (fun (u9 : (Nat → Int32)) => u9 = fX1_give x1 x2 v_bF v_below v_dF) (fun u9 t9 => atW D (TYS cI cB) A9 (wX1_give cI cB a_me a_by a_ks a_d a_dg u9 v_below v_dF) t9) A9
set_option maxHeartbeats 4000000 in
set_option maxRecDepth 100000 in
theorem kX1_give (l : Launch) (D : va_G) (cI cB : ClassId) (a_me a_by a_ks a_d a_dg : Nat) (sz : Nat) (v_bF : (Nat → Int32)) (v_below : Int32) (v_dF : (Nat → Int32)) (x1 : Int32) (x2 : Int32) : MetW l yX1_give (WK yX1_give cX1_give 6 none) rmX1_give D (TYS cI cB) (wX1_give cI cB a_me a_by a_ks a_d a_dg v_bF v_below v_dF) sz [.ref a_d, .ref a_me, .int x1, .int x2] (qX1_give D cI cB a_me a_by a_ks a_d a_dg v_bF v_below v_dF x1 x2) 0 0 := by
  refine met_std (by decide) rfl (Nat.le_of_ble_eq_true rfl) ?_
  intro p e s m below meth c A ls H hx hb hr hml hown hts hlocks hA hP hK hD hS hNW hl
  have hl : lv_has ls 6 [(0, .ref a_d), (1, .ref a_me), (2, .int x1), (3, .int x2)] := hl
  have q_0 := hts _ (List.mem_cons_of_mem _ wd_134)
  refine lv_iload_n hx hb dX1_give_0 rfl (lv_at hl 2 rfl) ?_
  refine lv_iload_n hx hb dX1_give_1 rfl (lv_at hl 3 rfl) ?_
  refine lv_iadd hx hb dX1_give_2 ?_
  refine lv_iconst (v := 1) hx hb dX1_give_3 (by decide) ?_
  refine lv_isub hx hb dX1_give_4 ?_
  refine lv_topi (fun x_5 ex_5 => ?_)
  refine lv_istore (lv' := [(4, .int x_5), (0, .ref a_d), (1, .ref a_me), (2, .int x1), (3, .int x2)]) hx hb dX1_give_5 hl (by decide) rfl (fun ls hl => ?_)
  refine lv_aload_n hx hb dX1_give_7 rfl (lv_at hl 2 rfl) ?_
  refine lv_iload hx hb dX1_give_8 (lv_at hl 0 rfl) ?_
  refine lv_aload_n hx hb dX1_give_10 rfl (lv_at hl 1 rfl) ?_
  refine lv_iconst (v := 0) hx hb dX1_give_11 (by decide) ?_
  have hPc : va_P D vwCl (wX1_digit cI cB a_d a_dg v_below v_dF) H := hP.sub [2, 3] rfl
  have hDc : va_D A (wX1_digit cI cB a_d a_dg v_below v_dF) := hD.sub [2, 3] (by decide) rfl
  have hFc := va_free (wc := (wX1_digit cI cB a_d a_dg v_below v_dF)) hD hS hA [2, 3] rfl
  refine va_calli (va_runV (As := [.int 0]) (rest := [.int x_5, .ref a_me]) ⟨hx, hb, hml, hown, hts⟩ (kX1_digit l D cI cB a_d a_dg H.size v_below v_dF 0) (cwV 1 hts (gd_V wd_147 wd_148 wd_149 wd_138 wd_144) rfl rfl rfl hdX1_digit ⟨Nat.le_of_ble_eq_true rfl, Nat.le_of_ble_eq_true rfl⟩) (preV_std (ci := 1) (q0 := 0) hPc hK hDc hNW rfl rfl) rfl rfl hl.1 rfl (lv_room (Nat.le_of_ble_eq_true rfl)) dX1_give_12 ⟨Nat.zero_le _, Nat.zero_le _⟩) hS (fun q _ h => hFc q h) hFc (fun r_12 u_12 t9 H1 locs ht9 hvm9 hw9 hB9 hz9 hk9 hS => ?_)
  have er_12 : r_12 = fX1_digit 0 v_dF := hw9
  obtain ⟨hP, hD⟩ := back_std (w1 := (wX1_digit cI cB a_d a_dg v_below v_dF)) (w2 := (wX1_give cI cB a_me a_by a_ks a_d a_dg v_bF v_below v_dF)) (wr := [(a_me, .inr (6, [.ref a_by, .ref a_ks])), (a_by, .inl (cB, 8192, .inl v_bF))]) hP hD [2, 3] [0, 1] [0, 1, 2, 3] rfl rfl (by decide) (by decide) hk9 hFc hB9 ht9 (by decide) rfl
  clear hB9 hk9 hz9 hvm9 ht9 hFc hPc hDc
  generalize H1 = H at hP hS ⊢
  refine lv_iconst (v := 4) hx hb dX1_give_15 (by decide) ?_
  refine lv_ishl hx hb dX1_give_16 ?_
  refine lv_aload_n hx hb dX1_give_17 rfl (lv_at hl 1 rfl) ?_
  refine va_get (D := D) (ci := 1) (v := .int v_below) (C := RX1) (T := TX1) (N := 2) hx hb hts in_X1 hown hK hP 2 rfl rfl 1 (by decide) q_0 (fun _ h9 => h9) rfl dX1_give_18 ?_
  have J_31 : ∀ (m_31 : Int32), m_31 = (if v_below = 0 then (12) else (13)) → ∀ (H : Heap) (locs : List Loc), va_P D vwCl (wX1_give cI cB a_me a_by a_ks a_d a_dg v_bF v_below v_dF) H → va_D A (wX1_give cI cB a_me a_by a_ks a_d a_dg v_bF v_below v_dF) → va_S A s.heap H locs → ∀ (ls : Array Slot), lv_has ls 6 [(0, .ref a_d), (1, .ref a_me), (2, .int x1), (3, .int x2), (4, .int x_5)] → W p l e rmX1_give s m ([.ref a_d, .ref a_me, .int x1, .int x2] : List Value).toArray below meth c H locs 0 0 (MQ below (qX1_give D cI cB a_me a_by a_ks a_d a_dg v_bF v_below v_dF x1 x2 A) ([.ref a_d, .ref a_me, .int x1, .int x2] : List Value).toArray s 0 0 A) (F0 m 31 ls [.int m_31, .int ((r_12 <<< (4 &&& 31))), .int x_5, .ref a_me]) := by
    intro m_31 em_31 H locs hP hD hS ls hl
    refine lv_ior hx hb dX1_give_31 ?_
    have hPc : va_P D vwCl (wX6_set cI cB a_me a_by a_ks v_bF) H := hP.sub [0, 1] rfl
    have hDc : va_D A (wX6_set cI cB a_me a_by a_ks v_bF) := hD.sub [0, 1] (by decide) rfl
    have hFc := va_free (wc := (wX6_set cI cB a_me a_by a_ks v_bF)) hD hS hA [0, 1] rfl
    refine va_callv (va_runV (As := [.int x_5, .int (((r_12 <<< (4 &&& 31)) ||| m_31))]) (rest := []) ⟨hx, hb, hml, hown, hts⟩ (kX6_set l D cI cB a_me a_by a_ks H.size v_bF x_5 ((r_12 <<< (4 &&& 31)) ||| m_31)) (cwV 2 hts (gd_V wd_150 wd_151 wd_152 wd_78 wd_145) rfl rfl rfl hdX6_set ⟨Nat.le_of_ble_eq_true rfl, Nat.le_of_ble_eq_true rfl⟩) (preV_std (ci := 6) (q0 := 0) hPc hK hDc hNW rfl rfl) rfl rfl hl.1 rfl (lv_room (Nat.le_of_ble_eq_true rfl)) dX1_give_32 ⟨Nat.zero_le _, Nat.zero_le _⟩) hS (fun q _ h => hFc q h) hFc (fun u_32 t9 H1 locs ht9 hvm9 hw9 hB9 hz9 hk9 hS => ?_)
    have eu_32 : u_32 = fX6_set x_5 ((r_12 <<< (4 &&& 31)) ||| m_31) v_bF := hw9
    obtain ⟨hP, hD⟩ := back_std (w1 := (wX6_set cI cB a_me a_by a_ks u_32)) (w2 := (wX1_give cI cB a_me a_by a_ks a_d a_dg u_32 v_below v_dF)) (wr := [(a_d, .inr (1, [.ref a_dg, .int v_below])), (a_dg, .inl (cI, 32, .inl v_dF))]) hP hD [0, 1] [2, 3] [2, 3, 0, 1] rfl rfl (by decide) (by decide) hk9 hFc hB9 ht9 (by decide) rfl
    clear hB9 hk9 hz9 hvm9 ht9 hFc hPc hDc
    generalize H1 = H at hP hS ⊢
    refine lv_iconst (v := 1) hx hb dX1_give_35 (by decide) ?_
    refine lv_istore (lv' := [(5, .int 1), (0, .ref a_d), (1, .ref a_me), (2, .int x1), (3, .int x2), (4, .int x_5)]) hx hb dX1_give_36 hl (by decide) rfl (fun ls hl => ?_)
    obtain ⟨g_38, eg_38⟩ : ∃ z : ((Nat → Int32) × Int32), z = LX1_give_38 x2 v_dF x_5 (msU x2 1 + 1) (u_32, 1) := ⟨_, rfl⟩
    have K_38_0 : ∀ (H : Heap) (locs : List Loc), va_P D vwCl (wX1_give cI cB a_me a_by a_ks a_d a_dg g_38.1 v_below v_dF) H → va_D A (wX1_give cI cB a_me a_by a_ks a_d a_dg g_38.1 v_below v_dF) → va_S A s.heap H locs → ∀ (ls : Array Slot), lv_has ls 6 [(0, .ref a_d), (1, .ref a_me), (2, .int x1), (3, .int x2), (4, .int x_5), (5, .int g_38.2)] → W p l e rmX1_give s m ([.ref a_d, .ref a_me, .int x1, .int x2] : List Value).toArray below meth c H locs 0 0 (MQ below (qX1_give D cI cB a_me a_by a_ks a_d a_dg v_bF v_below v_dF x1 x2 A) ([.ref a_d, .ref a_me, .int x1, .int x2] : List Value).toArray s 0 0 A) (F0 m 80 ls []) := by
      intro H locs hP hD hS ls hl
      have hf9 : g_38.1 = fX1_give x1 x2 v_bF v_below v_dF := by subst em_31; subst ex_5; simp only [fX1_give, ← er_12, ← eu_32, ← eg_38]
      exact W.vret hx hb hr (fun t9 ht9 hW9 => ⟨⟨g_38.1, rfl, hf9, ⟨by rw [ht9]; exact hP, va_K.moved hW9.alike hK, hD⟩⟩, hS.F ht9⟩) hS.2.2 dX1_give_80
    have lp_38 : ∀ (n9 : Nat) (w_38 : ((Nat → Int32) × Int32)), msU x2 w_38.2 < n9 → LX1_give_38 x2 v_dF x_5 n9 w_38 = g_38 → ∀ (H : Heap) (locs : List Loc), va_P D vwCl (wX1_give cI cB a_me a_by a_ks a_d a_dg w_38.1 v_below v_dF) H → va_D A (wX1_give cI cB a_me a_by a_ks a_d a_dg w_38.1 v_below v_dF) → va_S A s.heap H locs → ∀ (ls : Array Slot), lv_has ls 6 [(0, .ref a_d), (1, .ref a_me), (2, .int x1), (3, .int x2), (4, .int x_5), (5, .int w_38.2)] → W p l e rmX1_give s m ([.ref a_d, .ref a_me, .int x1, .int x2] : List Value).toArray below meth c H locs 0 0 (MQ below (qX1_give D cI cB a_me a_by a_ks a_d a_dg v_bF v_below v_dF x1 x2 A) ([.ref a_d, .ref a_me, .int x1, .int x2] : List Value).toArray s 0 0 A) (F0 m 38 ls []) := by
      intro n9
      induction n9 with
      | zero => intro w_38 hm9; exact absurd hm9 (Nat.not_lt_zero _)
      | succ n9 ih =>
        intro w_38 hm9 hL9 H locs hP hD hS ls hl
        refine lv_iload hx hb dX1_give_38 (lv_at hl 5 rfl) ?_
        refine lv_iload_n hx hb dX1_give_40 rfl (lv_at hl 3 rfl) ?_
        refine lv_icmp_ge (tgt := 80) hx hb dX1_give_41 (by decide) (fun c_41 => ?_) (fun c_41 => ?_)
        · skip
          have hg9 : (w_38.1, w_38.2) = g_38 := by rw [← hL9]; simp only [LX1_give_38, if_pos c_41]
          subst hg9
          exact K_38_0 _ _ hP hD hS ls (lv_sub hl [0, 1, 2, 3, 4, 5] rfl)
        · skip
          refine lv_aload_n hx hb dX1_give_44 rfl (lv_at hl 1 rfl) ?_
          refine lv_iload hx hb dX1_give_45 (lv_at hl 4 rfl) ?_
          refine lv_iload hx hb dX1_give_47 (lv_at hl 5 rfl) ?_
          refine lv_isub hx hb dX1_give_49 ?_
          refine lv_aload_n hx hb dX1_give_50 rfl (lv_at hl 0 rfl) ?_
          refine lv_iconst (v := 2) hx hb dX1_give_51 (by decide) ?_
          refine lv_iload hx hb dX1_give_52 (lv_at hl 5 rfl) ?_
          refine lv_imul hx hb dX1_give_54 ?_
          have hPc : va_P D vwCl (wX1_digit cI cB a_d a_dg v_below v_dF) H := hP.sub [2, 3] rfl
          have hDc : va_D A (wX1_digit cI cB a_d a_dg v_below v_dF) := hD.sub [2, 3] (by decide) rfl
          have hFc := va_free (wc := (wX1_digit cI cB a_d a_dg v_below v_dF)) hD hS hA [2, 3] rfl
          refine va_calli (va_runV (As := [.int (2 * w_38.2)]) (rest := [.int (x_5 - w_38.2), .ref a_me]) ⟨hx, hb, hml, hown, hts⟩ (kX1_digit l D cI cB a_d a_dg H.size v_below v_dF (2 * w_38.2)) (cwV 1 hts (gd_V wd_147 wd_148 wd_149 wd_138 wd_144) rfl rfl rfl hdX1_digit ⟨Nat.le_of_ble_eq_true rfl, Nat.le_of_ble_eq_true rfl⟩) (preV_std (ci := 1) (q0 := 0) hPc hK hDc hNW rfl rfl) rfl rfl hl.1 rfl (lv_room (Nat.le_of_ble_eq_true rfl)) dX1_give_55 ⟨Nat.zero_le _, Nat.zero_le _⟩) hS (fun q _ h => hFc q h) hFc (fun r_55 u_55 t9 H1 locs ht9 hvm9 hw9 hB9 hz9 hk9 hS => ?_)
          have er_55 : r_55 = fX1_digit (2 * w_38.2) v_dF := hw9
          obtain ⟨hP, hD⟩ := back_std (w1 := (wX1_digit cI cB a_d a_dg v_below v_dF)) (w2 := (wX1_give cI cB a_me a_by a_ks a_d a_dg w_38.1 v_below v_dF)) (wr := [(a_me, .inr (6, [.ref a_by, .ref a_ks])), (a_by, .inl (cB, 8192, .inl w_38.1))]) hP hD [2, 3] [0, 1] [0, 1, 2, 3] rfl rfl (by decide) (by decide) hk9 hFc hB9 ht9 (by decide) rfl
          clear hB9 hk9 hz9 hvm9 ht9 hFc hPc hDc
          generalize H1 = H at hP hS ⊢
          refine lv_iconst (v := 4) hx hb dX1_give_58 (by decide) ?_
          refine lv_ishl hx hb dX1_give_59 ?_
          refine lv_aload_n hx hb dX1_give_60 rfl (lv_at hl 0 rfl) ?_
          refine lv_iconst (v := 2) hx hb dX1_give_61 (by decide) ?_
          refine lv_iload hx hb dX1_give_62 (lv_at hl 5 rfl) ?_
          refine lv_imul hx hb dX1_give_64 ?_
          refine lv_iconst (v := 1) hx hb dX1_give_65 (by decide) ?_
          refine lv_isub hx hb dX1_give_66 ?_
          have hPc : va_P D vwCl (wX1_digit cI cB a_d a_dg v_below v_dF) H := hP.sub [2, 3] rfl
          have hDc : va_D A (wX1_digit cI cB a_d a_dg v_below v_dF) := hD.sub [2, 3] (by decide) rfl
          have hFc := va_free (wc := (wX1_digit cI cB a_d a_dg v_below v_dF)) hD hS hA [2, 3] rfl
          refine va_calli (va_runV (As := [.int (((2 * w_38.2) - 1))]) (rest := [.int ((r_55 <<< (4 &&& 31))), .int (x_5 - w_38.2), .ref a_me]) ⟨hx, hb, hml, hown, hts⟩ (kX1_digit l D cI cB a_d a_dg H.size v_below v_dF ((2 * w_38.2) - 1)) (cwV 1 hts (gd_V wd_147 wd_148 wd_149 wd_138 wd_144) rfl rfl rfl hdX1_digit ⟨Nat.le_of_ble_eq_true rfl, Nat.le_of_ble_eq_true rfl⟩) (preV_std (ci := 1) (q0 := 0) hPc hK hDc hNW rfl rfl) rfl rfl hl.1 rfl (lv_room (Nat.le_of_ble_eq_true rfl)) dX1_give_67 ⟨Nat.zero_le _, Nat.zero_le _⟩) hS (fun q _ h => hFc q h) hFc (fun r_67 u_67 t9 H1 locs ht9 hvm9 hw9 hB9 hz9 hk9 hS => ?_)
          have er_67 : r_67 = fX1_digit ((2 * w_38.2) - 1) v_dF := hw9
          obtain ⟨hP, hD⟩ := back_std (w1 := (wX1_digit cI cB a_d a_dg v_below v_dF)) (w2 := (wX1_give cI cB a_me a_by a_ks a_d a_dg w_38.1 v_below v_dF)) (wr := [(a_me, .inr (6, [.ref a_by, .ref a_ks])), (a_by, .inl (cB, 8192, .inl w_38.1))]) hP hD [2, 3] [0, 1] [0, 1, 2, 3] rfl rfl (by decide) (by decide) hk9 hFc hB9 ht9 (by decide) rfl
          clear hB9 hk9 hz9 hvm9 ht9 hFc hPc hDc
          generalize H1 = H at hP hS ⊢
          refine lv_ior hx hb dX1_give_70 ?_
          have hPc : va_P D vwCl (wX6_set cI cB a_me a_by a_ks w_38.1) H := hP.sub [0, 1] rfl
          have hDc : va_D A (wX6_set cI cB a_me a_by a_ks w_38.1) := hD.sub [0, 1] (by decide) rfl
          have hFc := va_free (wc := (wX6_set cI cB a_me a_by a_ks w_38.1)) hD hS hA [0, 1] rfl
          refine va_callv (va_runV (As := [.int (x_5 - w_38.2), .int (((r_55 <<< (4 &&& 31)) ||| r_67))]) (rest := []) ⟨hx, hb, hml, hown, hts⟩ (kX6_set l D cI cB a_me a_by a_ks H.size w_38.1 (x_5 - w_38.2) ((r_55 <<< (4 &&& 31)) ||| r_67)) (cwV 2 hts (gd_V wd_150 wd_151 wd_152 wd_78 wd_145) rfl rfl rfl hdX6_set ⟨Nat.le_of_ble_eq_true rfl, Nat.le_of_ble_eq_true rfl⟩) (preV_std (ci := 6) (q0 := 0) hPc hK hDc hNW rfl rfl) rfl rfl hl.1 rfl (lv_room (Nat.le_of_ble_eq_true rfl)) dX1_give_71 ⟨Nat.zero_le _, Nat.zero_le _⟩) hS (fun q _ h => hFc q h) hFc (fun u_71 t9 H1 locs ht9 hvm9 hw9 hB9 hz9 hk9 hS => ?_)
          have eu_71 : u_71 = fX6_set (x_5 - w_38.2) ((r_55 <<< (4 &&& 31)) ||| r_67) w_38.1 := hw9
          obtain ⟨hP, hD⟩ := back_std (w1 := (wX6_set cI cB a_me a_by a_ks u_71)) (w2 := (wX1_give cI cB a_me a_by a_ks a_d a_dg u_71 v_below v_dF)) (wr := [(a_d, .inr (1, [.ref a_dg, .int v_below])), (a_dg, .inl (cI, 32, .inl v_dF))]) hP hD [0, 1] [2, 3] [2, 3, 0, 1] rfl rfl (by decide) (by decide) hk9 hFc hB9 ht9 (by decide) rfl
          clear hB9 hk9 hz9 hvm9 ht9 hFc hPc hDc
          generalize H1 = H at hP hS ⊢
          obtain ⟨x_74, ex_74⟩ : ∃ z : Int32, z = w_38.2 + 1 := ⟨_, rfl⟩
          refine lv_iinc (v := x_74) (lv' := [(5, .int x_74), (0, .ref a_d), (1, .ref a_me), (2, .int x1), (3, .int x2), (4, .int x_5)]) hx hb dX1_give_74 hl (k := 5) rfl (by rw [ex_74]; rfl) (by decide) rfl (fun ls hl => ?_)
          refine lv_goto (tgt := 38) hx hb dX1_give_77 (by decide) ?_
          exact ih (u_71, x_74) (by subst ex_74; subst eu_71; subst er_67; subst er_55;  exact Nat.lt_of_lt_of_le (ms_up c_41) (Nat.le_of_lt_succ hm9)) (by rw [← hL9]; subst ex_74; simp only [LX1_give_38, ← er_55, ← er_67, ← eu_71, if_neg c_41]) _ _ hP hD hS ls (lv_sub hl [1, 2, 3, 4, 5, 0] rfl)
    exact lp_38 (msU x2 1 + 1) (u_32, 1) (Nat.lt_succ_self _) eg_38.symm _ _ hP hD hS ls (lv_sub hl [1, 2, 3, 4, 5, 0] rfl)
  refine lv_if_eq (tgt := 29) hx hb dX1_give_21 (by decide) (fun c_21 => ?_) (fun c_21 => ?_)
  · skip
    refine lv_bipush (v := 12) hx hb dX1_give_29 (by decide) ?_
    exact J_31 12 (by simp only [if_pos c_21]) _ _ hP hD hS ls (lv_sub hl [1, 2, 3, 4, 0] rfl)
  · skip
    refine lv_bipush (v := 13) hx hb dX1_give_24 (by decide) ?_
    refine lv_goto (tgt := 31) hx hb dX1_give_26 (by decide) ?_
    exact J_31 13 (by simp only [if_neg c_21]) _ _ hP hD hS ls (lv_sub hl [1, 2, 3, 4, 0] rfl)
theorem hdX1_give : yX1_give.cls = RX1 ∧ yX1_give.cls ≠ "java/lang/invoke/MethodHandle" ∧ yX1_give.cls ≠ "java/lang/invoke/VarHandle" ∧ (parseMethodDescriptor yX1_give.desc).map (fun d => d.parameters.length) = some 3 := by decide +kernel
