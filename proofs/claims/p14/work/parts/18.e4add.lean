noncomputable def fX1_add (v_below : Int32) (v_dF : (Nat → Int32)) (v_below2 : Int32) (v_dF2 : (Nat → Int32)) : (Int32 × (Nat → Int32)) :=
  let m_54 : (Int32 × (Nat → Int32)) := (if v_below = v_below2 then (let u_15 := fX1_combine 1 1 v_dF v_dF2; (v_below, u_15)) else (let r_23 := fX1_isSmallerThan v_dF v_dF2; if r_23 = 0 then (let u_51 := fX1_combine 1 (-1) v_dF v_dF2; (v_below, u_51)) else (let u_33 := fX1_combine (-1) 1 v_dF v_dF2; (v_below2, u_33))))
  let m_75 : Int32 := (if m_54.1 = 0 then (0) else (let r_64 := fX1_isLongerThan 0 m_54.2; if r_64 = 0 then (0) else (1)))
  (m_75, m_54.2)
abbrev wX1_add (cI cB : ClassId) (a_d a_dg a_d2 a_dg2 : Nat) (v_below : Int32) (v_dF : (Nat → Int32)) (v_below2 : Int32) (v_dF2 : (Nat → Int32)) : va_W := [(a_d, .inr (1, [.ref a_dg, .int v_below])), (a_dg, .inl (cI, 32, .inl v_dF)), (a_d2, .inr (1, [.ref a_dg2, .int v_below2])), (a_dg2, .inl (cI, 32, .inl v_dF2))]
abbrev rmX1_add : Room := { frames := 2, cells := 0, slots := 0, locals := 48 }
abbrev qX1_add (D : va_G) (cI cB : ClassId) (a_d a_dg a_d2 a_dg2 : Nat) (v_below : Int32) (v_dF : (Nat → Int32)) (v_below2 : Int32) (v_dF2 : (Nat → Int32)) : (Nat → Prop) → Array Value → State → Outcome → State → Prop := fun A9 => va_Qv (fun (u9 : (Int32 × (Nat → Int32))) => u9 = fX1_add v_below v_dF v_below2 v_dF2) (fun u9 t9 => atW D (TYS cI cB) A9 (wX1_add cI cB a_d a_dg a_d2 a_dg2 u9.1 u9.2 v_below2 v_dF2) t9) A9
set_option maxHeartbeats 4000000 in
set_option maxRecDepth 100000 in
theorem kX1_add (l : Launch) (D : va_G) (cI cB : ClassId) (a_d a_dg a_d2 a_dg2 : Nat) (sz : Nat) (v_below : Int32) (v_dF : (Nat → Int32)) (v_below2 : Int32) (v_dF2 : (Nat → Int32)) (hz2 : v_below2 = 0 ∨ v_below2 = 1) : MetW l yX1_add (WK yX1_add cX1_add 2 none) rmX1_add D (TYS cI cB) (wX1_add cI cB a_d a_dg a_d2 a_dg2 v_below v_dF v_below2 v_dF2) sz [.ref a_d, .ref a_d2] (qX1_add D cI cB a_d a_dg a_d2 a_dg2 v_below v_dF v_below2 v_dF2) 0 0 := by
  refine met_std (by decide) rfl (Nat.le_of_ble_eq_true rfl) ?_
  intro p e s m below meth c A ls H hx hb hr hml hown hts hlocks hA hP hK hD hS hNW hl
  have hl : lv_has ls 2 [(0, .ref a_d), (1, .ref a_d2)] := hl
  have q_0 := hts _ (List.mem_cons_of_mem _ wd_134)
  refine lv_aload_n hx hb dX1_add_0 rfl (lv_at hl 0 rfl) ?_
  refine va_get (D := D) (ci := 1) (v := .int v_below) (C := RX1) (T := TX1) (N := 2) hx hb hts in_X1 hown hK hP 0 rfl rfl 1 (by decide) q_0 (fun _ h9 => h9) rfl dX1_add_1 ?_
  refine lv_aload_n hx hb dX1_add_4 rfl (lv_at hl 1 rfl) ?_
  refine va_get (D := D) (ci := 1) (v := .int v_below2) (C := RX1) (T := TX1) (N := 2) hx hb hts in_X1 hown hK hP 2 rfl rfl 1 (by decide) q_0 (fun _ h9 => h9) rfl dX1_add_5 ?_
  have J_54 : ∀ (m_54 : (Int32 × (Nat → Int32))), m_54 = (if v_below = v_below2 then (let u_15 := fX1_combine 1 1 v_dF v_dF2; (v_below, u_15)) else (let r_23 := fX1_isSmallerThan v_dF v_dF2; if r_23 = 0 then (let u_51 := fX1_combine 1 (-1) v_dF v_dF2; (v_below, u_51)) else (let u_33 := fX1_combine (-1) 1 v_dF v_dF2; (v_below2, u_33)))) → ∀ (H : Heap) (locs : List Loc), va_P D vwCl (wX1_add cI cB a_d a_dg a_d2 a_dg2 m_54.1 m_54.2 v_below2 v_dF2) H → va_D A (wX1_add cI cB a_d a_dg a_d2 a_dg2 m_54.1 m_54.2 v_below2 v_dF2) → va_S A s.heap H locs → ∀ (ls : Array Slot), lv_has ls 2 [(0, .ref a_d), (1, .ref a_d2)] → W p l e rmX1_add s m ([.ref a_d, .ref a_d2] : List Value).toArray below meth c H locs 0 0 (MQ below (qX1_add D cI cB a_d a_dg a_d2 a_dg2 v_below v_dF v_below2 v_dF2 A) ([.ref a_d, .ref a_d2] : List Value).toArray s 0 0 A) (F0 m 54 ls []) := by
    intro m_54 em_54 H locs hP hD hS ls hl
    refine lv_aload_n hx hb dX1_add_54 rfl (lv_at hl 0 rfl) ?_
    refine lv_aload_n hx hb dX1_add_55 rfl (lv_at hl 0 rfl) ?_
    refine va_get (D := D) (ci := 1) (v := .int m_54.1) (C := RX1) (T := TX1) (N := 2) hx hb hts in_X1 hown hK hP 0 rfl rfl 1 (by decide) q_0 (fun _ h9 => h9) rfl dX1_add_56 ?_
    have J_75 : ∀ (m_75 : Int32), m_75 = (if m_54.1 = 0 then (0) else (let r_64 := fX1_isLongerThan 0 m_54.2; if r_64 = 0 then (0) else (1))) → ∀ (H : Heap) (locs : List Loc), va_P D vwCl (wX1_add cI cB a_d a_dg a_d2 a_dg2 m_54.1 m_54.2 v_below2 v_dF2) H → va_D A (wX1_add cI cB a_d a_dg a_d2 a_dg2 m_54.1 m_54.2 v_below2 v_dF2) → va_S A s.heap H locs → ∀ (ls : Array Slot), lv_has ls 2 [(0, .ref a_d), (1, .ref a_d2)] → W p l e rmX1_add s m ([.ref a_d, .ref a_d2] : List Value).toArray below meth c H locs 0 0 (MQ below (qX1_add D cI cB a_d a_dg a_d2 a_dg2 v_below v_dF v_below2 v_dF2 A) ([.ref a_d, .ref a_d2] : List Value).toArray s 0 0 A) (F0 m 75 ls [.int m_75, .ref a_d]) := by
      intro m_75 em_75 H locs hP hD hS ls hl
      have zm_75_0 : m_75 = 0 ∨ m_75 = 1 := by rw [em_75]; (try dsimp only); (repeat' split) <;> first | exact Or.inl rfl | exact Or.inr rfl
      refine va_put (D := D) (ci := 1) (v := .int m_75) (ty := .boolean) (C := RX1) (T := TX1) (N := 2) hx hb hts in_X1 tyX1 tyX1_ok nmX1 hown hK hP hD hS 0 rfl rfl 1 (by decide) q_0 (fun _ h9 => h9) rfl (by decide +kernel) (zb_narrow (by with_reducible assumption)) (zb_fits (by with_reducible assumption)) (Nat.le_of_ble_eq_true rfl) dX1_add_75 (fun H locs hP hD hS => ?_)
      have hP : va_P D vwCl (wX1_add cI cB a_d a_dg a_d2 a_dg2 m_75 m_54.2 v_below2 v_dF2) H := hP
      have hD : va_D A (wX1_add cI cB a_d a_dg a_d2 a_dg2 m_75 m_54.2 v_below2 v_dF2) := hD
      have hf9 : (m_75, m_54.2) = fX1_add v_below v_dF v_below2 v_dF2 := by subst em_75; subst em_54; simp only [fX1_add]
      exact W.vret hx hb hr (fun t9 ht9 hW9 => ⟨⟨(m_75, m_54.2), rfl, hf9, ⟨by rw [ht9]; exact hP, va_K.moved hW9.alike hK, hD⟩⟩, hS.F ht9⟩) hS.2.2 dX1_add_78
    refine lv_if_eq (tgt := 74) hx hb dX1_add_59 (by decide) (fun c_59 => ?_) (fun c_59 => ?_)
    · skip
      refine lv_iconst (v := 0) hx hb dX1_add_74 (by decide) ?_
      exact J_75 0 (by simp only [if_pos c_59]) _ _ hP hD hS ls (lv_sub hl [0, 1] rfl)
    · skip
      refine lv_aload_n hx hb dX1_add_62 rfl (lv_at hl 0 rfl) ?_
      refine lv_iconst (v := 0) hx hb dX1_add_63 (by decide) ?_
      have hPc : va_P D vwCl (wX1_isLongerThan cI cB a_d a_dg m_54.1 m_54.2) H := hP.sub [0, 1] rfl
      have hDc : va_D A (wX1_isLongerThan cI cB a_d a_dg m_54.1 m_54.2) := hD.sub [0, 1] (by decide) rfl
      have hFc := va_free (wc := (wX1_isLongerThan cI cB a_d a_dg m_54.1 m_54.2)) hD hS hA [0, 1] rfl
      refine va_calli (va_runV (As := [.int 0]) (rest := [.ref a_d]) ⟨hx, hb, hml, hown, hts⟩ (kX1_isLongerThan l D cI cB a_d a_dg H.size m_54.1 m_54.2 0) (cwV 1 hts (gd_V wd_159 wd_160 wd_161 wd_138 wd_153) rfl rfl rfl hdX1_isLongerThan ⟨Nat.le_of_ble_eq_true rfl, Nat.le_of_ble_eq_true rfl⟩) (preV_std (ci := 1) (q0 := 0) hPc hK hDc hNW rfl rfl) rfl rfl hl.1 rfl (lv_room (Nat.le_of_ble_eq_true rfl)) dX1_add_64 ⟨Nat.zero_le _, Nat.zero_le _⟩) hS (fun q _ h => hFc q h) hFc (fun r_64 u_64 t9 H1 locs ht9 hvm9 hw9 hB9 hz9 hk9 hS => ?_)
      have er_64 : r_64 = fX1_isLongerThan 0 m_54.2 := hw9
      have zr_64 : r_64 = 0 ∨ r_64 = 1 := by rw [er_64]; exact zX1_isLongerThan _ _
      obtain ⟨hP, hD⟩ := back_std (w1 := (wX1_isLongerThan cI cB a_d a_dg m_54.1 m_54.2)) (w2 := (wX1_add cI cB a_d a_dg a_d2 a_dg2 m_54.1 m_54.2 v_below2 v_dF2)) (wr := [(a_d2, .inr (1, [.ref a_dg2, .int v_below2])), (a_dg2, .inl (cI, 32, .inl v_dF2))]) hP hD [0, 1] [2, 3] [2, 3, 0, 1] rfl rfl (by decide) (by decide) hk9 hFc hB9 ht9 (by decide) rfl
      clear hB9 hk9 hz9 hvm9 ht9 hFc hPc hDc
      generalize H1 = H at hP hS ⊢
      refine lv_if_eq (tgt := 74) hx hb dX1_add_67 (by decide) (fun c_67 => ?_) (fun c_67 => ?_)
      · skip
        refine lv_iconst (v := 0) hx hb dX1_add_74 (by decide) ?_
        exact J_75 0 (by simp only [← er_64, if_neg c_59, if_pos c_67]) _ _ hP hD hS ls (lv_sub hl [0, 1] rfl)
      · skip
        refine lv_iconst (v := 1) hx hb dX1_add_70 (by decide) ?_
        refine lv_goto (tgt := 75) hx hb dX1_add_71 (by decide) ?_
        exact J_75 1 (by simp only [← er_64, if_neg c_59, if_neg c_67]) _ _ hP hD hS ls (lv_sub hl [0, 1] rfl)
  refine lv_icmp_ne (tgt := 21) hx hb dX1_add_8 (by decide) (fun c_8 => ?_) (fun c_8 => ?_)
  · skip
    refine lv_aload_n hx hb dX1_add_21 rfl (lv_at hl 0 rfl) ?_
    refine lv_aload_n hx hb dX1_add_22 rfl (lv_at hl 1 rfl) ?_
    have hPc : va_P D vwCl (wX1_isSmallerThan cI cB a_d a_dg a_d2 a_dg2 v_below v_dF v_below2 v_dF2) H := hP.sub [0, 1, 2, 3] rfl
    have hDc : va_D A (wX1_isSmallerThan cI cB a_d a_dg a_d2 a_dg2 v_below v_dF v_below2 v_dF2) := hD.sub [0, 1, 2, 3] (by decide) rfl
    have hFc := va_free (wc := (wX1_isSmallerThan cI cB a_d a_dg a_d2 a_dg2 v_below v_dF v_below2 v_dF2)) hD hS hA [0, 1, 2, 3] rfl
    refine va_calli (va_runV (As := [.ref a_d2]) (rest := []) ⟨hx, hb, hml, hown, hts⟩ (kX1_isSmallerThan l D cI cB a_d a_dg a_d2 a_dg2 H.size v_below v_dF v_below2 v_dF2 ) (cwV 1 hts (gd_V wd_180 wd_181 wd_182 wd_138 wd_176) rfl rfl rfl hdX1_isSmallerThan ⟨Nat.le_of_ble_eq_true rfl, Nat.le_of_ble_eq_true rfl⟩) (preV_std (ci := 1) (q0 := 0) hPc hK hDc hNW rfl rfl) rfl rfl hl.1 rfl (lv_room (Nat.le_of_ble_eq_true rfl)) dX1_add_23 ⟨Nat.zero_le _, Nat.zero_le _⟩) hS (fun q _ h => hFc q h) hFc (fun r_23 u_23 t9 H1 locs ht9 hvm9 hw9 hB9 hz9 hk9 hS => ?_)
    have er_23 : r_23 = fX1_isSmallerThan v_dF v_dF2 := hw9
    have zr_23 : r_23 = 0 ∨ r_23 = 1 := by rw [er_23]; exact zX1_isSmallerThan _ _
    obtain ⟨hP, hD⟩ := back_std (w1 := (wX1_isSmallerThan cI cB a_d a_dg a_d2 a_dg2 v_below v_dF v_below2 v_dF2)) (w2 := (wX1_add cI cB a_d a_dg a_d2 a_dg2 v_below v_dF v_below2 v_dF2)) (wr := []) hP hD [0, 1, 2, 3] [] [0, 1, 2, 3] rfl rfl (by decide) (by decide) hk9 hFc hB9 ht9 (by decide) rfl
    clear hB9 hk9 hz9 hvm9 ht9 hFc hPc hDc
    generalize H1 = H at hP hS ⊢
    refine lv_if_eq (tgt := 47) hx hb dX1_add_26 (by decide) (fun c_26 => ?_) (fun c_26 => ?_)
    · skip
      refine lv_aload_n hx hb dX1_add_47 rfl (lv_at hl 0 rfl) ?_
      refine lv_iconst (v := 1) hx hb dX1_add_48 (by decide) ?_
      refine lv_aload_n hx hb dX1_add_49 rfl (lv_at hl 1 rfl) ?_
      refine lv_iconst (v := (-1)) hx hb dX1_add_50 (by decide) ?_
      have hPc : va_P D vwCl (wX1_combine cI cB a_d a_dg a_d2 a_dg2 v_below v_dF v_below2 v_dF2) H := hP.sub [0, 1, 2, 3] rfl
      have hDc : va_D A (wX1_combine cI cB a_d a_dg a_d2 a_dg2 v_below v_dF v_below2 v_dF2) := hD.sub [0, 1, 2, 3] (by decide) rfl
      have hFc := va_free (wc := (wX1_combine cI cB a_d a_dg a_d2 a_dg2 v_below v_dF v_below2 v_dF2)) hD hS hA [0, 1, 2, 3] rfl
      refine va_callv (va_runV (As := [.int 1, .ref a_d2, .int (-1)]) (rest := []) ⟨hx, hb, hml, hown, hts⟩ (kX1_combine l D cI cB a_d a_dg a_d2 a_dg2 H.size v_below v_dF v_below2 v_dF2 1 (-1)) (cwV 3 hts (gd_V wd_177 wd_178 wd_179 wd_138 wd_170) rfl rfl rfl hdX1_combine ⟨Nat.le_of_ble_eq_true rfl, Nat.le_of_ble_eq_true rfl⟩) (preV_std (ci := 1) (q0 := 0) hPc hK hDc hNW rfl rfl) rfl rfl hl.1 rfl (lv_room (Nat.le_of_ble_eq_true rfl)) dX1_add_51 ⟨Nat.zero_le _, Nat.zero_le _⟩) hS (fun q _ h => hFc q h) hFc (fun u_51 t9 H1 locs ht9 hvm9 hw9 hB9 hz9 hk9 hS => ?_)
      have eu_51 : u_51 = fX1_combine 1 (-1) v_dF v_dF2 := hw9
      obtain ⟨hP, hD⟩ := back_std (w1 := (wX1_combine cI cB a_d a_dg a_d2 a_dg2 v_below u_51 v_below2 v_dF2)) (w2 := (wX1_add cI cB a_d a_dg a_d2 a_dg2 v_below u_51 v_below2 v_dF2)) (wr := []) hP hD [0, 1, 2, 3] [] [0, 1, 2, 3] rfl rfl (by decide) (by decide) hk9 hFc hB9 ht9 (by decide) rfl
      clear hB9 hk9 hz9 hvm9 ht9 hFc hPc hDc
      generalize H1 = H at hP hS ⊢
      exact J_54 (v_below, u_51) (by simp only [← er_23, ← eu_51, if_neg c_8, if_pos c_26]) _ _ hP hD hS ls (lv_sub hl [0, 1] rfl)
    · skip
      refine lv_aload_n hx hb dX1_add_29 rfl (lv_at hl 0 rfl) ?_
      refine lv_iconst (v := (-1)) hx hb dX1_add_30 (by decide) ?_
      refine lv_aload_n hx hb dX1_add_31 rfl (lv_at hl 1 rfl) ?_
      refine lv_iconst (v := 1) hx hb dX1_add_32 (by decide) ?_
      have hPc : va_P D vwCl (wX1_combine cI cB a_d a_dg a_d2 a_dg2 v_below v_dF v_below2 v_dF2) H := hP.sub [0, 1, 2, 3] rfl
      have hDc : va_D A (wX1_combine cI cB a_d a_dg a_d2 a_dg2 v_below v_dF v_below2 v_dF2) := hD.sub [0, 1, 2, 3] (by decide) rfl
      have hFc := va_free (wc := (wX1_combine cI cB a_d a_dg a_d2 a_dg2 v_below v_dF v_below2 v_dF2)) hD hS hA [0, 1, 2, 3] rfl
      refine va_callv (va_runV (As := [.int (-1), .ref a_d2, .int 1]) (rest := []) ⟨hx, hb, hml, hown, hts⟩ (kX1_combine l D cI cB a_d a_dg a_d2 a_dg2 H.size v_below v_dF v_below2 v_dF2 (-1) 1) (cwV 3 hts (gd_V wd_177 wd_178 wd_179 wd_138 wd_170) rfl rfl rfl hdX1_combine ⟨Nat.le_of_ble_eq_true rfl, Nat.le_of_ble_eq_true rfl⟩) (preV_std (ci := 1) (q0 := 0) hPc hK hDc hNW rfl rfl) rfl rfl hl.1 rfl (lv_room (Nat.le_of_ble_eq_true rfl)) dX1_add_33 ⟨Nat.zero_le _, Nat.zero_le _⟩) hS (fun q _ h => hFc q h) hFc (fun u_33 t9 H1 locs ht9 hvm9 hw9 hB9 hz9 hk9 hS => ?_)
      have eu_33 : u_33 = fX1_combine (-1) 1 v_dF v_dF2 := hw9
      obtain ⟨hP, hD⟩ := back_std (w1 := (wX1_combine cI cB a_d a_dg a_d2 a_dg2 v_below u_33 v_below2 v_dF2)) (w2 := (wX1_add cI cB a_d a_dg a_d2 a_dg2 v_below u_33 v_below2 v_dF2)) (wr := []) hP hD [0, 1, 2, 3] [] [0, 1, 2, 3] rfl rfl (by decide) (by decide) hk9 hFc hB9 ht9 (by decide) rfl
      clear hB9 hk9 hz9 hvm9 ht9 hFc hPc hDc
      generalize H1 = H at hP hS ⊢
      refine lv_aload_n hx hb dX1_add_36 rfl (lv_at hl 0 rfl) ?_
      refine lv_aload_n hx hb dX1_add_37 rfl (lv_at hl 1 rfl) ?_
      refine va_get (D := D) (ci := 1) (v := .int v_below2) (C := RX1) (T := TX1) (N := 2) hx hb hts in_X1 hown hK hP 2 rfl rfl 1 (by decide) q_0 (fun _ h9 => h9) rfl dX1_add_38 ?_
      refine va_put (D := D) (ci := 1) (v := .int v_below2) (ty := .boolean) (C := RX1) (T := TX1) (N := 2) hx hb hts in_X1 tyX1 tyX1_ok nmX1 hown hK hP hD hS 0 rfl rfl 1 (by decide) q_0 (fun _ h9 => h9) rfl (by decide +kernel) (zb_narrow (by with_reducible assumption)) (zb_fits (by with_reducible assumption)) (Nat.le_of_ble_eq_true rfl) dX1_add_41 (fun H locs hP hD hS => ?_)
      have hP : va_P D vwCl (wX1_add cI cB a_d a_dg a_d2 a_dg2 v_below2 u_33 v_below2 v_dF2) H := hP
      have hD : va_D A (wX1_add cI cB a_d a_dg a_d2 a_dg2 v_below2 u_33 v_below2 v_dF2) := hD
      refine lv_goto (tgt := 54) hx hb dX1_add_44 (by decide) ?_
      exact J_54 (v_below2, u_33) (by simp only [← er_23, ← eu_33, if_neg c_8, if_neg c_26]) _ _ hP hD hS ls (lv_sub hl [0, 1] rfl)
  · skip
    refine lv_aload_n hx hb dX1_add_11 rfl (lv_at hl 0 rfl) ?_
    refine lv_iconst (v := 1) hx hb dX1_add_12 (by decide) ?_
    refine lv_aload_n hx hb dX1_add_13 rfl (lv_at hl 1 rfl) ?_
    refine lv_iconst (v := 1) hx hb dX1_add_14 (by decide) ?_
    have hPc : va_P D vwCl (wX1_combine cI cB a_d a_dg a_d2 a_dg2 v_below v_dF v_below2 v_dF2) H := hP.sub [0, 1, 2, 3] rfl
    have hDc : va_D A (wX1_combine cI cB a_d a_dg a_d2 a_dg2 v_below v_dF v_below2 v_dF2) := hD.sub [0, 1, 2, 3] (by decide) rfl
    have hFc := va_free (wc := (wX1_combine cI cB a_d a_dg a_d2 a_dg2 v_below v_dF v_below2 v_dF2)) hD hS hA [0, 1, 2, 3] rfl
    refine va_callv (va_runV (As := [.int 1, .ref a_d2, .int 1]) (rest := []) ⟨hx, hb, hml, hown, hts⟩ (kX1_combine l D cI cB a_d a_dg a_d2 a_dg2 H.size v_below v_dF v_below2 v_dF2 1 1) (cwV 3 hts (gd_V wd_177 wd_178 wd_179 wd_138 wd_170) rfl rfl rfl hdX1_combine ⟨Nat.le_of_ble_eq_true rfl, Nat.le_of_ble_eq_true rfl⟩) (preV_std (ci := 1) (q0 := 0) hPc hK hDc hNW rfl rfl) rfl rfl hl.1 rfl (lv_room (Nat.le_of_ble_eq_true rfl)) dX1_add_15 ⟨Nat.zero_le _, Nat.zero_le _⟩) hS (fun q _ h => hFc q h) hFc (fun u_15 t9 H1 locs ht9 hvm9 hw9 hB9 hz9 hk9 hS => ?_)
    have eu_15 : u_15 = fX1_combine 1 1 v_dF v_dF2 := hw9
    obtain ⟨hP, hD⟩ := back_std (w1 := (wX1_combine cI cB a_d a_dg a_d2 a_dg2 v_below u_15 v_below2 v_dF2)) (w2 := (wX1_add cI cB a_d a_dg a_d2 a_dg2 v_below u_15 v_below2 v_dF2)) (wr := []) hP hD [0, 1, 2, 3] [] [0, 1, 2, 3] rfl rfl (by decide) (by decide) hk9 hFc hB9 ht9 (by decide) rfl
    clear hB9 hk9 hz9 hvm9 ht9 hFc hPc hDc
    generalize H1 = H at hP hS ⊢
    refine lv_goto (tgt := 54) hx hb dX1_add_18 (by decide) ?_
    exact J_54 (v_below, u_15) (by simp only [← eu_15, if_pos c_8]) _ _ hP hD hS ls (lv_sub hl [0, 1] rfl)
theorem hdX1_add : yX1_add.cls = RX1 ∧ yX1_add.cls ≠ "java/lang/invoke/MethodHandle" ∧ yX1_add.cls ≠ "java/lang/invoke/VarHandle" ∧ (parseMethodDescriptor yX1_add.desc).map (fun d => d.parameters.length) = some 1 := by decide +kernel
