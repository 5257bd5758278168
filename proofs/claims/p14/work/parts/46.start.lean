theorem arr_of {s : State} {a : Array Value} {ty : FieldType} (h : (Cond.arrayClass ty).before a s = true) : ∃ c : ClassId, ArrOfT s c ty ∧ s.vm.findClass ("[" ++ ty.toString) = some c := by
  obtain ⟨c, k, comp, h1, h2, h3⟩ := Cond.arrayClass_spec h
  exact ⟨c, fun n z => ⟨fun k h => (by cases h), k, h2, comp, h3⟩, h1⟩
set_option maxHeartbeats 4000000 in
set_option maxRecDepth 100000 in
theorem r_start {p : Program} {e : Env} {s : State} {m : MethodId} {below : List Frame} {meth : Method} {c : Code} (l : Launch) (hst : l.stackTraces = false) {b L : Nat} {xs : Nat → Int32} (hL : L ≤ 2560) (e30 : L = 30) (eS : xs = rS) (C0 : lw_At p s m meth c b L xs) : W p l e room_1 s m #[Value.ref b] below meth c s.heap [] 0 0 (rw_Z below #[Value.ref b] s) (entryFrame m ([Value.ref b] : List Value).toArray 8) := by
  subst e30 eS
  obtain ⟨hx, hb, hr, hml, hown, htsT, hX, hbl, hlocks, hgv⟩ := id C0
  have hb : c.code = cL_law := hb
  have hown : s.vm.findClass RL = some m.cls := hown
  have hts : ∀ w ∈ Cond.initialized RL :: WSA, w.before #[Value.ref b] s = true := fun w h => (List.mem_cons.mp h).elim (fun e => by rw [e]; exact htsT _ RL_tbl) (fun h => htsT w (WSA_tbl w h))
  have hNW : NW s := NW_of htsT
  have hTN : TN s := TN_of htsT
  have hTW0 := TW_of htsT hgv
  obtain ⟨aO, aN, hZT0⟩ := ZT_of htsT hgv
  obtain ⟨A, hAe⟩ : ∃ A : Nat → Prop, A = fun q : Nat => s.heap.size ≤ q := ⟨_, rfl⟩
  rw [← hAe] at hTW0 hZT0
  have hA : ∀ q : Nat, s.heap.size ≤ q → A q := fun q h => by rw [hAe]; exact h
  have hAi : ∀ q : Nat, A q → s.heap.size ≤ q := fun q h => by rw [hAe] at h; exact h
  have hbA : ¬ A b := fun h => absurd (hAi b h) (Nat.not_le.mpr hbl)
  obtain ⟨cc0, iS0, hKn0⟩ := u_known (C := RX0) (T := TX0) (N := 2) (n := 2) hts in_X0 (hts _ (List.mem_cons_of_mem _ wd_568))
  obtain ⟨cc1, iS1, hKn1⟩ := u_known (C := RX1) (T := TX1) (N := 2) (n := 2) hts in_X1 (hts _ (List.mem_cons_of_mem _ wd_192))
  obtain ⟨cc2, iS2, hKn2⟩ := u_known (C := RX2) (T := TX2) (N := 8) (n := 8) hts in_X2 (hts _ (List.mem_cons_of_mem _ wd_574))
  obtain ⟨cc3, iS3, hKn3⟩ := u_known (C := RX3) (T := TX3) (N := 11) (n := 11) hts in_X3 (hts _ (List.mem_cons_of_mem _ wd_577))
  obtain ⟨cc4, iS4, hKn4⟩ := u_known (C := RX4) (T := TX4) (N := 8) (n := 8) hts in_X4 (hts _ (List.mem_cons_of_mem _ wd_559))
  obtain ⟨cc5, iS5, hKn5⟩ := u_known (C := RX5) (T := TX5) (N := 4) (n := 4) hts in_X5 (hts _ (List.mem_cons_of_mem _ wd_556))
  obtain ⟨cc6, iS6, hKn6⟩ := u_known (C := RX6) (T := TX6) (N := 2) (n := 2) hts in_X6 (hts _ (List.mem_cons_of_mem _ wd_367))
  obtain ⟨cc7, iS7, hKn7⟩ := u_known (C := RX7) (T := TX7) (N := 1) (n := 1) hts in_X7 (hts _ (List.mem_cons_of_mem _ wd_369))
  obtain ⟨cc8, iS8, hKn8⟩ := u_known (C := RX8) (T := TX8) (N := 2) (n := 2) hts in_X8 (hts _ (List.mem_cons_of_mem _ wd_565))
  obtain ⟨cc9, iS9, hKn9⟩ := u_known (C := RX9) (T := TX9) (N := 3) (n := 3) hts in_X9 (hts _ (List.mem_cons_of_mem _ wd_571))
  obtain ⟨cc10, iS10, hKn10⟩ := u_known (C := RX10) (T := TX10) (N := 2) (n := 2) hts in_X10 (hts _ (List.mem_cons_of_mem _ wd_562))
  obtain ⟨cc11, iS11, hKn11⟩ := u_known (C := RX11) (T := TX11) (N := 10) (n := 10) hts in_X11 (hts _ (List.mem_cons_of_mem _ wd_1092))
  obtain ⟨cc12, iS12, hKn12⟩ := u_known (C := RX12) (T := TX12) (N := 26) (n := 26) hts in_X12 (hts _ (List.mem_cons_of_mem _ wd_1094))
  obtain ⟨D, hKc⟩ : ∃ D : va_G, ∀ (k : Nat) (q : vw_C), vwCl[k]? = some q → u_Kn s q.1 q.2.1 q.2.2 (D.1 k) (D.2 k) := by
    refine ⟨(fun k => if k = 0 then cc0 else if k = 1 then cc1 else if k = 2 then cc2 else if k = 3 then cc3 else if k = 4 then cc4 else if k = 5 then cc5 else if k = 6 then cc6 else if k = 7 then cc7 else if k = 8 then cc8 else if k = 9 then cc9 else if k = 10 then cc10 else if k = 11 then cc11 else cc12, fun k => if k = 0 then iS0 else if k = 1 then iS1 else if k = 2 then iS2 else if k = 3 then iS3 else if k = 4 then iS4 else if k = 5 then iS5 else if k = 6 then iS6 else if k = 7 then iS7 else if k = 8 then iS8 else if k = 9 then iS9 else if k = 10 then iS10 else if k = 11 then iS11 else iS12), ?_⟩
    intro k q hq
    match k, hq with
    | 0, hq => cases hq; exact hKn0
    | 1, hq => cases hq; exact hKn1
    | 2, hq => cases hq; exact hKn2
    | 3, hq => cases hq; exact hKn3
    | 4, hq => cases hq; exact hKn4
    | 5, hq => cases hq; exact hKn5
    | 6, hq => cases hq; exact hKn6
    | 7, hq => cases hq; exact hKn7
    | 8, hq => cases hq; exact hKn8
    | 9, hq => cases hq; exact hKn9
    | 10, hq => cases hq; exact hKn10
    | 11, hq => cases hq; exact hKn11
    | 12, hq => cases hq; exact hKn12
    | k + 13, hq => simp [vwCl] at hq
  obtain ⟨cI, h1cI, h2cI⟩ := arr_of (ty := .int) (hts _ (List.mem_cons_of_mem _ wd_128))
  obtain ⟨cB, h1cB, h2cB⟩ := arr_of (ty := .byte) (hts _ (List.mem_cons_of_mem _ wd_361))
  obtain ⟨cJ, h1cJ, h2cJ⟩ := arr_of (ty := .long) (hts _ (List.mem_cons_of_mem _ wd_1095))
  have hKJ : va_K D vwCl (TYJ cI cB cJ) s := by
    refine ⟨hKc, fun k q hq => ?_⟩
    match k, hq with
    | 0, hq => cases hq; exact ⟨h1cI, h2cI⟩
    | 1, hq => cases hq; exact ⟨h1cB, h2cB⟩
    | 2, hq => cases hq; exact ⟨h1cJ, h2cJ⟩
    | k + 3, hq => simp at hq
  have hK := hKJ.sub (tys' := TYS cI cB) [0, 1] rfl
  have hS : va_S A s.heap s.heap [] := va_S.rf
  have hP : va_P D vwCl [] s.heap := fun k q h => by simp at h
  have hD : va_D A [] := ⟨fun i j p q h => by simp at h, fun k q h => by simp at h⟩
  have hl := lv_entry ([.ref b]) (n := 8) (Nat.le_of_ble_eq_true rfl)
  rw [lg_entry_eq]
  generalize (lg_sl ([.ref b]) ++ List.replicate (8 - (lg_sl ([.ref b])).length) Slot.unset).toArray = ls at hl ⊢
  have hl : lv_has ls 8 [(0, .ref b)] := hl
  refine va_new (ci := 11) (fs := [.null, .null, .null, .null, .null, .null, .null, .null, .null, .int 0]) (C := RX11) (T := TX11) (N := 10) hx hb hts in_X11 tyX11 tyX11_ok hown (hts _ (List.mem_cons_of_mem _ wd_1091)) (hts _ (List.mem_cons_of_mem _ wd_1092)) (hts _ (List.mem_cons_of_mem _ wd_611)) hK hP hD hS hA rfl (fun j hj => by rcases (show j = 0 ∨ j = 1 ∨ j = 2 ∨ j = 3 ∨ j = 4 ∨ j = 5 ∨ j = 6 ∨ j = 7 ∨ j = 8 ∨ j = 9 by omega) with rfl | rfl | rfl | rfl | rfl | rfl | rfl | rfl | rfl | rfl <;> rfl) (Nat.le_of_ble_eq_true rfl) (Nat.le_of_ble_eq_true rfl) dL_law_0 (fun q_0 H hP hD hS => ?_)
  have hP : va_P D vwCl [(q_0, .inr (11, [.null, .null, .null, .null, .null, .null, .null, .null, .null, .int 0]))] H := hP
  have hD : va_D A [(q_0, .inr (11, [.null, .null, .null, .null, .null, .null, .null, .null, .null, .int 0]))] := hD
  refine W.widen (k := 1) (n := 10) (Nat.le_of_ble_eq_true rfl) (Nat.le_of_ble_eq_true rfl) ?_
  refine lv_dup hx hb dL_law_3 rfl ?_
  have hPc := hP.sub (ws' := [(q_0, .inr (11, [.null, .null, .null, .null, .null, .null, .null, .null, .null, .int 0]))]) [0] rfl
  have hDc := hD.sub (ws' := [(q_0, .inr (11, [.null, .null, .null, .null, .null, .null, .null, .null, .null, .int 0]))]) [0] (by decide) rfl
  have hFc := va_free (wc := [(q_0, .inr (11, [.null, .null, .null, .null, .null, .null, .null, .null, .null, .int 0]))]) hD hS hA [0] rfl
  refine va_callv (va_runI (As := []) (rest := [.ref q_0]) ⟨hx, hb, hml, hown, hts⟩ (kX11_init l D cI cB q_0 H.size) (cwI 0 hts (gd_I wd_595) rfl rfl rfl (hts _ (List.mem_cons_of_mem _ wd_611)) (hts _ (List.mem_cons_of_mem _ wd_1097)) (hts _ (List.mem_cons_of_mem _ wd_1098)) rfl hdX11_init.2 ⟨Nat.le_of_ble_eq_true rfl, Nat.le_of_ble_eq_true rfl⟩) (preS_std hPc hK hDc hNW) rfl rfl hl.1 rfl (lv_room (Nat.le_of_ble_eq_true rfl)) dL_law_4 ⟨Nat.le_of_ble_eq_true rfl, Nat.le_of_ble_eq_true rfl⟩) hS (fun q _ h => hFc q h) hFc (fun u_0 t9 H1 locs ht9 hvm9 hw9 hB9 hz9 hk9 hS => ?_)
  obtain ⟨u_0_0, u_0_1, u_0_2, u_0_3, u_0_4, u_0_5, u_0_6, u_0_7, u_0_8, u_0_9, u_0_10, u_0_11, u_0_12, u_0_13, u_0_14, u_0_15, u_0_16, u_0_17, u_0_18, u_0_19⟩ := u_0
  obtain ⟨hP, hD⟩ := back_std (w1 := [(q_0, .inr (11, [.ref u_0_0, .ref u_0_6, .ref u_0_7, .ref u_0_8, .ref u_0_9, .ref u_0_10, .ref u_0_11, .ref u_0_17, .ref u_0_19, .int 0])), (u_0_0, .inr (5, [.ref u_0_1, .ref u_0_4, .ref u_0_5, .int 0])), (u_0_1, .inr (6, [.ref u_0_2, .ref u_0_3])), (u_0_2, .inl (cB, 8192, .inl (fun _ => 0))), (u_0_3, .inl (cI, 4, .inl (fun _ => 0))), (u_0_4, .inr (7, [.long 0])), (u_0_5, .inl (cI, 16, .inl (fun _ => 0))), (u_0_6, .inr (4, [.ref u_0_0, .ref u_0_1, .int 0, .int 0, .int 0, .int 0, .int 0, .int 0])), (u_0_7, .inr (10, [.ref u_0_0, .ref u_0_6])), (u_0_8, .inr (8, [.ref u_0_0, .ref u_0_6])), (u_0_9, .inr (0, [.ref u_0_0, .ref u_0_6])), (u_0_10, .inr (9, [.ref u_0_0, .ref u_0_6, .ref u_0_1])), (u_0_11, .inr (2, [.ref u_0_0, .ref u_0_6, .ref u_0_1, .ref u_0_12, .ref u_0_14, .ref u_0_16, .int 0, .int 0])), (u_0_12, .inr (1, [.ref u_0_13, .int 0])), (u_0_13, .inl (cI, 32, .inl (fun _ => 0))), (u_0_14, .inr (1, [.ref u_0_15, .int 0])), (u_0_15, .inl (cI, 32, .inl (fun _ => 0))), (u_0_16, .inl (cI, 16, .inl (fun _ => 0))), (u_0_17, .inr (3, [.ref u_0_0, .ref u_0_6, .ref u_0_1, .ref u_0_18, .int 0, .int 0, .int 0, .int 0, .int 0, .int 0, .int 0])), (u_0_18, .inl (cI, 256, .inl (fun _ => 0))), (u_0_19, .inl (cI, 3, .inl (fun _ => 0)))]) (w2 := [(q_0, .inr (11, [.ref u_0_0, .ref u_0_6, .ref u_0_7, .ref u_0_8, .ref u_0_9, .ref u_0_10, .ref u_0_11, .ref u_0_17, .ref u_0_19, .int 0])), (u_0_0, .inr (5, [.ref u_0_1, .ref u_0_4, .ref u_0_5, .int 0])), (u_0_1, .inr (6, [.ref u_0_2, .ref u_0_3])), (u_0_2, .inl (cB, 8192, .inl (fun _ => 0))), (u_0_3, .inl (cI, 4, .inl (fun _ => 0))), (u_0_4, .inr (7, [.long 0])), (u_0_5, .inl (cI, 16, .inl (fun _ => 0))), (u_0_6, .inr (4, [.ref u_0_0, .ref u_0_1, .int 0, .int 0, .int 0, .int 0, .int 0, .int 0])), (u_0_7, .inr (10, [.ref u_0_0, .ref u_0_6])), (u_0_8, .inr (8, [.ref u_0_0, .ref u_0_6])), (u_0_9, .inr (0, [.ref u_0_0, .ref u_0_6])), (u_0_10, .inr (9, [.ref u_0_0, .ref u_0_6, .ref u_0_1])), (u_0_11, .inr (2, [.ref u_0_0, .ref u_0_6, .ref u_0_1, .ref u_0_12, .ref u_0_14, .ref u_0_16, .int 0, .int 0])), (u_0_12, .inr (1, [.ref u_0_13, .int 0])), (u_0_13, .inl (cI, 32, .inl (fun _ => 0))), (u_0_14, .inr (1, [.ref u_0_15, .int 0])), (u_0_15, .inl (cI, 32, .inl (fun _ => 0))), (u_0_16, .inl (cI, 16, .inl (fun _ => 0))), (u_0_17, .inr (3, [.ref u_0_0, .ref u_0_6, .ref u_0_1, .ref u_0_18, .int 0, .int 0, .int 0, .int 0, .int 0, .int 0, .int 0])), (u_0_18, .inl (cI, 256, .inl (fun _ => 0))), (u_0_19, .inl (cI, 3, .inl (fun _ => 0)))]) (wr := []) hP hD [0] [] [0, 1, 2, 3, 4, 5, 6, 7, 8, 9, 10, 11, 12, 13, 14, 15, 16, 17, 18, 19, 20] rfl rfl (by decide) (by decide) hk9 hFc hB9 ht9 (by decide) rfl
  clear hB9 hk9 hz9 hvm9 ht9 hFc hPc hDc
  generalize H1 = H at hP hS ⊢
  have hP : va_P D vwCl [(q_0, .inr (11, [.ref u_0_0, .ref u_0_6, .ref u_0_7, .ref u_0_8, .ref u_0_9, .ref u_0_10, .ref u_0_11, .ref u_0_17, .ref u_0_19, .int 0])), (u_0_0, .inr (5, [.ref u_0_1, .ref u_0_4, .ref u_0_5, .int 0])), (u_0_1, .inr (6, [.ref u_0_2, .ref u_0_3])), (u_0_2, .inl (cB, 8192, .inl (fun _ => 0))), (u_0_3, .inl (cI, 4, .inl (fun _ => 0))), (u_0_4, .inr (7, [.long 0])), (u_0_5, .inl (cI, 16, .inl (fun _ => 0))), (u_0_6, .inr (4, [.ref u_0_0, .ref u_0_1, .int 0, .int 0, .int 0, .int 0, .int 0, .int 0])), (u_0_7, .inr (10, [.ref u_0_0, .ref u_0_6])), (u_0_8, .inr (8, [.ref u_0_0, .ref u_0_6])), (u_0_9, .inr (0, [.ref u_0_0, .ref u_0_6])), (u_0_10, .inr (9, [.ref u_0_0, .ref u_0_6, .ref u_0_1])), (u_0_11, .inr (2, [.ref u_0_0, .ref u_0_6, .ref u_0_1, .ref u_0_12, .ref u_0_14, .ref u_0_16, .int 0, .int 0])), (u_0_12, .inr (1, [.ref u_0_13, .int 0])), (u_0_13, .inl (cI, 32, .inl (fun _ => 0))), (u_0_14, .inr (1, [.ref u_0_15, .int 0])), (u_0_15, .inl (cI, 32, .inl (fun _ => 0))), (u_0_16, .inl (cI, 16, .inl (fun _ => 0))), (u_0_17, .inr (3, [.ref u_0_0, .ref u_0_6, .ref u_0_1, .ref u_0_18, .int 0, .int 0, .int 0, .int 0, .int 0, .int 0, .int 0])), (u_0_18, .inl (cI, 256, .inl (fun _ => 0))), (u_0_19, .inl (cI, 3, .inl (fun _ => 0)))] H := hP
  have hD : va_D A [(q_0, .inr (11, [.ref u_0_0, .ref u_0_6, .ref u_0_7, .ref u_0_8, .ref u_0_9, .ref u_0_10, .ref u_0_11, .ref u_0_17, .ref u_0_19, .int 0])), (u_0_0, .inr (5, [.ref u_0_1, .ref u_0_4, .ref u_0_5, .int 0])), (u_0_1, .inr (6, [.ref u_0_2, .ref u_0_3])), (u_0_2, .inl (cB, 8192, .inl (fun _ => 0))), (u_0_3, .inl (cI, 4, .inl (fun _ => 0))), (u_0_4, .inr (7, [.long 0])), (u_0_5, .inl (cI, 16, .inl (fun _ => 0))), (u_0_6, .inr (4, [.ref u_0_0, .ref u_0_1, .int 0, .int 0, .int 0, .int 0, .int 0, .int 0])), (u_0_7, .inr (10, [.ref u_0_0, .ref u_0_6])), (u_0_8, .inr (8, [.ref u_0_0, .ref u_0_6])), (u_0_9, .inr (0, [.ref u_0_0, .ref u_0_6])), (u_0_10, .inr (9, [.ref u_0_0, .ref u_0_6, .ref u_0_1])), (u_0_11, .inr (2, [.ref u_0_0, .ref u_0_6, .ref u_0_1, .ref u_0_12, .ref u_0_14, .ref u_0_16, .int 0, .int 0])), (u_0_12, .inr (1, [.ref u_0_13, .int 0])), (u_0_13, .inl (cI, 32, .inl (fun _ => 0))), (u_0_14, .inr (1, [.ref u_0_15, .int 0])), (u_0_15, .inl (cI, 32, .inl (fun _ => 0))), (u_0_16, .inl (cI, 16, .inl (fun _ => 0))), (u_0_17, .inr (3, [.ref u_0_0, .ref u_0_6, .ref u_0_1, .ref u_0_18, .int 0, .int 0, .int 0, .int 0, .int 0, .int 0, .int 0])), (u_0_18, .inl (cI, 256, .inl (fun _ => 0))), (u_0_19, .inl (cI, 3, .inl (fun _ => 0)))] := hD
  refine W.widen (k := 21) (n := 8608) (Nat.le_of_ble_eq_true rfl) (Nat.le_of_ble_eq_true rfl) ?_
  refine lv_astore_n (lv' := [(1, .ref q_0), (0, .ref b)]) hx hb dL_law_7 rfl hl (by decide) rfl (fun ls hl => ?_)
  refine va_new (ci := 12) (fs := [.int 0, .null, .null, .null, .int 0, .int 0, .int 0, .int 0, .int 0, .int 0, .int 0, .int 0, .int 0, .int 0, .null, .null, .int 0, .int 0, .int 0, .null, .int 0, .null, .int 0, .null, .null, .null]) (C := RX12) (T := TX12) (N := 26) hx hb hts in_X12 tyX12 tyX12_ok hown (hts _ (List.mem_cons_of_mem _ wd_1093)) (hts _ (List.mem_cons_of_mem _ wd_1094)) (hts _ (List.mem_cons_of_mem _ wd_807)) hK hP hD hS hA rfl (fun j hj => by rcases (show j = 0 ∨ j = 1 ∨ j = 2 ∨ j = 3 ∨ j = 4 ∨ j = 5 ∨ j = 6 ∨ j = 7 ∨ j = 8 ∨ j = 9 ∨ j = 10 ∨ j = 11 ∨ j = 12 ∨ j = 13 ∨ j = 14 ∨ j = 15 ∨ j = 16 ∨ j = 17 ∨ j = 18 ∨ j = 19 ∨ j = 20 ∨ j = 21 ∨ j = 22 ∨ j = 23 ∨ j = 24 ∨ j = 25 by omega) with rfl | rfl | rfl | rfl | rfl | rfl | rfl | rfl | rfl | rfl | rfl | rfl | rfl | rfl | rfl | rfl | rfl | rfl | rfl | rfl | rfl | rfl | rfl | rfl | rfl | rfl <;> rfl) (Nat.le_of_ble_eq_true rfl) (Nat.le_of_ble_eq_true rfl) dL_law_8 (fun q_8 H hP hD hS => ?_)
  have hP : va_P D vwCl [(q_0, .inr (11, [.ref u_0_0, .ref u_0_6, .ref u_0_7, .ref u_0_8, .ref u_0_9, .ref u_0_10, .ref u_0_11, .ref u_0_17, .ref u_0_19, .int 0])), (u_0_0, .inr (5, [.ref u_0_1, .ref u_0_4, .ref u_0_5, .int 0])), (u_0_1, .inr (6, [.ref u_0_2, .ref u_0_3])), (u_0_2, .inl (cB, 8192, .inl (fun _ => 0))), (u_0_3, .inl (cI, 4, .inl (fun _ => 0))), (u_0_4, .inr (7, [.long 0])), (u_0_5, .inl (cI, 16, .inl (fun _ => 0))), (u_0_6, .inr (4, [.ref u_0_0, .ref u_0_1, .int 0, .int 0, .int 0, .int 0, .int 0, .int 0])), (u_0_7, .inr (10, [.ref u_0_0, .ref u_0_6])), (u_0_8, .inr (8, [.ref u_0_0, .ref u_0_6])), (u_0_9, .inr (0, [.ref u_0_0, .ref u_0_6])), (u_0_10, .inr (9, [.ref u_0_0, .ref u_0_6, .ref u_0_1])), (u_0_11, .inr (2, [.ref u_0_0, .ref u_0_6, .ref u_0_1, .ref u_0_12, .ref u_0_14, .ref u_0_16, .int 0, .int 0])), (u_0_12, .inr (1, [.ref u_0_13, .int 0])), (u_0_13, .inl (cI, 32, .inl (fun _ => 0))), (u_0_14, .inr (1, [.ref u_0_15, .int 0])), (u_0_15, .inl (cI, 32, .inl (fun _ => 0))), (u_0_16, .inl (cI, 16, .inl (fun _ => 0))), (u_0_17, .inr (3, [.ref u_0_0, .ref u_0_6, .ref u_0_1, .ref u_0_18, .int 0, .int 0, .int 0, .int 0, .int 0, .int 0, .int 0])), (u_0_18, .inl (cI, 256, .inl (fun _ => 0))), (u_0_19, .inl (cI, 3, .inl (fun _ => 0))), (q_8, .inr (12, [.int 0, .null, .null, .null, .int 0, .int 0, .int 0, .int 0, .int 0, .int 0, .int 0, .int 0, .int 0, .int 0, .null, .null, .int 0, .int 0, .int 0, .null, .int 0, .null, .int 0, .null, .null, .null]))] H := hP
  have hD : va_D A [(q_0, .inr (11, [.ref u_0_0, .ref u_0_6, .ref u_0_7, .ref u_0_8, .ref u_0_9, .ref u_0_10, .ref u_0_11, .ref u_0_17, .ref u_0_19, .int 0])), (u_0_0, .inr (5, [.ref u_0_1, .ref u_0_4, .ref u_0_5, .int 0])), (u_0_1, .inr (6, [.ref u_0_2, .ref u_0_3])), (u_0_2, .inl (cB, 8192, .inl (fun _ => 0))), (u_0_3, .inl (cI, 4, .inl (fun _ => 0))), (u_0_4, .inr (7, [.long 0])), (u_0_5, .inl (cI, 16, .inl (fun _ => 0))), (u_0_6, .inr (4, [.ref u_0_0, .ref u_0_1, .int 0, .int 0, .int 0, .int 0, .int 0, .int 0])), (u_0_7, .inr (10, [.ref u_0_0, .ref u_0_6])), (u_0_8, .inr (8, [.ref u_0_0, .ref u_0_6])), (u_0_9, .inr (0, [.ref u_0_0, .ref u_0_6])), (u_0_10, .inr (9, [.ref u_0_0, .ref u_0_6, .ref u_0_1])), (u_0_11, .inr (2, [.ref u_0_0, .ref u_0_6, .ref u_0_1, .ref u_0_12, .ref u_0_14, .ref u_0_16, .int 0, .int 0])), (u_0_12, .inr (1, [.ref u_0_13, .int 0])), (u_0_13, .inl (cI, 32, .inl (fun _ => 0))), (u_0_14, .inr (1, [.ref u_0_15, .int 0])), (u_0_15, .inl (cI, 32, .inl (fun _ => 0))), (u_0_16, .inl (cI, 16, .inl (fun _ => 0))), (u_0_17, .inr (3, [.ref u_0_0, .ref u_0_6, .ref u_0_1, .ref u_0_18, .int 0, .int 0, .int 0, .int 0, .int 0, .int 0, .int 0])), (u_0_18, .inl (cI, 256, .inl (fun _ => 0))), (u_0_19, .inl (cI, 3, .inl (fun _ => 0))), (q_8, .inr (12, [.int 0, .null, .null, .null, .int 0, .int 0, .int 0, .int 0, .int 0, .int 0, .int 0, .int 0, .int 0, .int 0, .null, .null, .int 0, .int 0, .int 0, .null, .int 0, .null, .int 0, .null, .null, .null]))] := hD
  refine W.widen (k := 22) (n := 8634) (Nat.le_of_ble_eq_true rfl) (Nat.le_of_ble_eq_true rfl) ?_
  refine lv_dup hx hb dL_law_11 rfl ?_
  have hPc := hP.sub (ws' := [(q_8, .inr (12, [.int 0, .null, .null, .null, .int 0, .int 0, .int 0, .int 0, .int 0, .int 0, .int 0, .int 0, .int 0, .int 0, .null, .null, .int 0, .int 0, .int 0, .null, .int 0, .null, .int 0, .null, .null, .null]))]) [21] rfl
  have hDc := hD.sub (ws' := [(q_8, .inr (12, [.int 0, .null, .null, .null, .int 0, .int 0, .int 0, .int 0, .int 0, .int 0, .int 0, .int 0, .int 0, .int 0, .null, .null, .int 0, .int 0, .int 0, .null, .int 0, .null, .int 0, .null, .null, .null]))]) [21] (by decide) rfl
  have hFc := va_free (wc := [(q_8, .inr (12, [.int 0, .null, .null, .null, .int 0, .int 0, .int 0, .int 0, .int 0, .int 0, .int 0, .int 0, .int 0, .int 0, .null, .null, .int 0, .int 0, .int 0, .null, .int 0, .null, .int 0, .null, .null, .null]))]) hD hS hA [21] rfl
  refine va_callv (va_runI (As := []) (rest := [.ref q_8]) ⟨hx, hb, hml, hown, hts⟩ (kX12_init l D cI cB q_8 H.size) (cwI 0 hts (gd_I wd_775) rfl rfl rfl (hts _ (List.mem_cons_of_mem _ wd_807)) (hts _ (List.mem_cons_of_mem _ wd_1099)) (hts _ (List.mem_cons_of_mem _ wd_1100)) rfl hdX12_init.2 ⟨Nat.le_of_ble_eq_true rfl, Nat.le_of_ble_eq_true rfl⟩) (preS_std hPc hK hDc hNW) rfl rfl hl.1 rfl (lv_room (Nat.le_of_ble_eq_true rfl)) dL_law_12 ⟨Nat.le_of_ble_eq_true rfl, Nat.le_of_ble_eq_true rfl⟩) hS (fun q _ h => hFc q h) hFc (fun u_8 t9 H1 locs ht9 hvm9 hw9 hB9 hz9 hk9 hS => ?_)
  obtain ⟨u_8_0, u_8_1, u_8_2, u_8_3, u_8_4, u_8_5, u_8_6, u_8_7, u_8_8, u_8_9⟩ := u_8
  obtain ⟨hP, hD⟩ := back_std (w1 := [(q_8, .inr (12, [.int 0, .ref u_8_0, .ref u_8_1, .ref u_8_2, .int 0, .int 0, .int 0, .int 0, .int 0, .int 0, .int 0, .int 0, .int 0, .int 0, .ref u_8_3, .ref u_8_4, .int 0, .int 0, .int 0, .ref u_8_5, .int 0, .ref u_8_6, .int 0, .ref u_8_7, .ref u_8_8, .ref u_8_9])), (u_8_0, .inl (cI, 8192, .inl (fun _ => 0))), (u_8_1, .inl (cI, 4, .inl (fun _ => 0))), (u_8_2, .inl (cI, 16, .inl (fun _ => 0))), (u_8_3, .inl (cI, 3, .inl (fun _ => 0))), (u_8_4, .inl (cI, 6, .inl (fun _ => 0))), (u_8_5, .inl (cI, 80, .inl (fun _ => 0))), (u_8_6, .inl (cI, 80, .inl (fun _ => 0))), (u_8_7, .inl (cI, 80, .inl (fun _ => 0))), (u_8_8, .inl (cI, 80, .inl (fun _ => 0))), (u_8_9, .inl (cI, 512, .inl (fun _ => 0)))]) (w2 := [(q_0, .inr (11, [.ref u_0_0, .ref u_0_6, .ref u_0_7, .ref u_0_8, .ref u_0_9, .ref u_0_10, .ref u_0_11, .ref u_0_17, .ref u_0_19, .int 0])), (u_0_0, .inr (5, [.ref u_0_1, .ref u_0_4, .ref u_0_5, .int 0])), (u_0_1, .inr (6, [.ref u_0_2, .ref u_0_3])), (u_0_2, .inl (cB, 8192, .inl (fun _ => 0))), (u_0_3, .inl (cI, 4, .inl (fun _ => 0))), (u_0_4, .inr (7, [.long 0])), (u_0_5, .inl (cI, 16, .inl (fun _ => 0))), (u_0_6, .inr (4, [.ref u_0_0, .ref u_0_1, .int 0, .int 0, .int 0, .int 0, .int 0, .int 0])), (u_0_7, .inr (10, [.ref u_0_0, .ref u_0_6])), (u_0_8, .inr (8, [.ref u_0_0, .ref u_0_6])), (u_0_9, .inr (0, [.ref u_0_0, .ref u_0_6])), (u_0_10, .inr (9, [.ref u_0_0, .ref u_0_6, .ref u_0_1])), (u_0_11, .inr (2, [.ref u_0_0, .ref u_0_6, .ref u_0_1, .ref u_0_12, .ref u_0_14, .ref u_0_16, .int 0, .int 0])), (u_0_12, .inr (1, [.ref u_0_13, .int 0])), (u_0_13, .inl (cI, 32, .inl (fun _ => 0))), (u_0_14, .inr (1, [.ref u_0_15, .int 0])), (u_0_15, .inl (cI, 32, .inl (fun _ => 0))), (u_0_16, .inl (cI, 16, .inl (fun _ => 0))), (u_0_17, .inr (3, [.ref u_0_0, .ref u_0_6, .ref u_0_1, .ref u_0_18, .int 0, .int 0, .int 0, .int 0, .int 0, .int 0, .int 0])), (u_0_18, .inl (cI, 256, .inl (fun _ => 0))), (u_0_19, .inl (cI, 3, .inl (fun _ => 0))), (q_8, .inr (12, [.int 0, .ref u_8_0, .ref u_8_1, .ref u_8_2, .int 0, .int 0, .int 0, .int 0, .int 0, .int 0, .int 0, .int 0, .int 0, .int 0, .ref u_8_3, .ref u_8_4, .int 0, .int 0, .int 0, .ref u_8_5, .int 0, .ref u_8_6, .int 0, .ref u_8_7, .ref u_8_8, .ref u_8_9])), (u_8_0, .inl (cI, 8192, .inl (fun _ => 0))), (u_8_1, .inl (cI, 4, .inl (fun _ => 0))), (u_8_2, .inl (cI, 16, .inl (fun _ => 0))), (u_8_3, .inl (cI, 3, .inl (fun _ => 0))), (u_8_4, .inl (cI, 6, .inl (fun _ => 0))), (u_8_5, .inl (cI, 80, .inl (fun _ => 0))), (u_8_6, .inl (cI, 80, .inl (fun _ => 0))), (u_8_7, .inl (cI, 80, .inl (fun _ => 0))), (u_8_8, .inl (cI, 80, .inl (fun _ => 0))), (u_8_9, .inl (cI, 512, .inl (fun _ => 0)))]) (wr := [(q_0, .inr (11, [.ref u_0_0, .ref u_0_6, .ref u_0_7, .ref u_0_8, .ref u_0_9, .ref u_0_10, .ref u_0_11, .ref u_0_17, .ref u_0_19, .int 0])), (u_0_0, .inr (5, [.ref u_0_1, .ref u_0_4, .ref u_0_5, .int 0])), (u_0_1, .inr (6, [.ref u_0_2, .ref u_0_3])), (u_0_2, .inl (cB, 8192, .inl (fun _ => 0))), (u_0_3, .inl (cI, 4, .inl (fun _ => 0))), (u_0_4, .inr (7, [.long 0])), (u_0_5, .inl (cI, 16, .inl (fun _ => 0))), (u_0_6, .inr (4, [.ref u_0_0, .ref u_0_1, .int 0, .int 0, .int 0, .int 0, .int 0, .int 0])), (u_0_7, .inr (10, [.ref u_0_0, .ref u_0_6])), (u_0_8, .inr (8, [.ref u_0_0, .ref u_0_6])), (u_0_9, .inr (0, [.ref u_0_0, .ref u_0_6])), (u_0_10, .inr (9, [.ref u_0_0, .ref u_0_6, .ref u_0_1])), (u_0_11, .inr (2, [.ref u_0_0, .ref u_0_6, .ref u_0_1, .ref u_0_12, .ref u_0_14, .ref u_0_16, .int 0, .int 0])), (u_0_12, .inr (1, [.ref u_0_13, .int 0])), (u_0_13, .inl (cI, 32, .inl (fun _ => 0))), (u_0_14, .inr (1, [.ref u_0_15, .int 0])), (u_0_15, .inl (cI, 32, .inl (fun _ => 0))), (u_0_16, .inl (cI, 16, .inl (fun _ => 0))), (u_0_17, .inr (3, [.ref u_0_0, .ref u_0_6, .ref u_0_1, .ref u_0_18, .int 0, .int 0, .int 0, .int 0, .int 0, .int 0, .int 0])), (u_0_18, .inl (cI, 256, .inl (fun _ => 0))), (u_0_19, .inl (cI, 3, .inl (fun _ => 0)))]) hP hD [21] [0, 1, 2, 3, 4, 5, 6, 7, 8, 9, 10, 11, 12, 13, 14, 15, 16, 17, 18, 19, 20] [0, 1, 2, 3, 4, 5, 6, 7, 8, 9, 10, 11, 12, 13, 14, 15, 16, 17, 18, 19, 20, 21, 22, 23, 24, 25, 26, 27, 28, 29, 30, 31] rfl rfl (by decide) (by decide) hk9 hFc hB9 ht9 (by decide) rfl
  clear hB9 hk9 hz9 hvm9 ht9 hFc hPc hDc
  generalize H1 = H at hP hS ⊢
  have hP : va_P D vwCl [(q_0, .inr (11, [.ref u_0_0, .ref u_0_6, .ref u_0_7, .ref u_0_8, .ref u_0_9, .ref u_0_10, .ref u_0_11, .ref u_0_17, .ref u_0_19, .int 0])), (u_0_0, .inr (5, [.ref u_0_1, .ref u_0_4, .ref u_0_5, .int 0])), (u_0_1, .inr (6, [.ref u_0_2, .ref u_0_3])), (u_0_2, .inl (cB, 8192, .inl (fun _ => 0))), (u_0_3, .inl (cI, 4, .inl (fun _ => 0))), (u_0_4, .inr (7, [.long 0])), (u_0_5, .inl (cI, 16, .inl (fun _ => 0))), (u_0_6, .inr (4, [.ref u_0_0, .ref u_0_1, .int 0, .int 0, .int 0, .int 0, .int 0, .int 0])), (u_0_7, .inr (10, [.ref u_0_0, .ref u_0_6])), (u_0_8, .inr (8, [.ref u_0_0, .ref u_0_6])), (u_0_9, .inr (0, [.ref u_0_0, .ref u_0_6])), (u_0_10, .inr (9, [.ref u_0_0, .ref u_0_6, .ref u_0_1])), (u_0_11, .inr (2, [.ref u_0_0, .ref u_0_6, .ref u_0_1, .ref u_0_12, .ref u_0_14, .ref u_0_16, .int 0, .int 0])), (u_0_12, .inr (1, [.ref u_0_13, .int 0])), (u_0_13, .inl (cI, 32, .inl (fun _ => 0))), (u_0_14, .inr (1, [.ref u_0_15, .int 0])), (u_0_15, .inl (cI, 32, .inl (fun _ => 0))), (u_0_16, .inl (cI, 16, .inl (fun _ => 0))), (u_0_17, .inr (3, [.ref u_0_0, .ref u_0_6, .ref u_0_1, .ref u_0_18, .int 0, .int 0, .int 0, .int 0, .int 0, .int 0, .int 0])), (u_0_18, .inl (cI, 256, .inl (fun _ => 0))), (u_0_19, .inl (cI, 3, .inl (fun _ => 0))), (q_8, .inr (12, [.int 0, .ref u_8_0, .ref u_8_1, .ref u_8_2, .int 0, .int 0, .int 0, .int 0, .int 0, .int 0, .int 0, .int 0, .int 0, .int 0, .ref u_8_3, .ref u_8_4, .int 0, .int 0, .int 0, .ref u_8_5, .int 0, .ref u_8_6, .int 0, .ref u_8_7, .ref u_8_8, .ref u_8_9])), (u_8_0, .inl (cI, 8192, .inl (fun _ => 0))), (u_8_1, .inl (cI, 4, .inl (fun _ => 0))), (u_8_2, .inl (cI, 16, .inl (fun _ => 0))), (u_8_3, .inl (cI, 3, .inl (fun _ => 0))), (u_8_4, .inl (cI, 6, .inl (fun _ => 0))), (u_8_5, .inl (cI, 80, .inl (fun _ => 0))), (u_8_6, .inl (cI, 80, .inl (fun _ => 0))), (u_8_7, .inl (cI, 80, .inl (fun _ => 0))), (u_8_8, .inl (cI, 80, .inl (fun _ => 0))), (u_8_9, .inl (cI, 512, .inl (fun _ => 0)))] H := hP
  have hD : va_D A [(q_0, .inr (11, [.ref u_0_0, .ref u_0_6, .ref u_0_7, .ref u_0_8, .ref u_0_9, .ref u_0_10, .ref u_0_11, .ref u_0_17, .ref u_0_19, .int 0])), (u_0_0, .inr (5, [.ref u_0_1, .ref u_0_4, .ref u_0_5, .int 0])), (u_0_1, .inr (6, [.ref u_0_2, .ref u_0_3])), (u_0_2, .inl (cB, 8192, .inl (fun _ => 0))), (u_0_3, .inl (cI, 4, .inl (fun _ => 0))), (u_0_4, .inr (7, [.long 0])), (u_0_5, .inl (cI, 16, .inl (fun _ => 0))), (u_0_6, .inr (4, [.ref u_0_0, .ref u_0_1, .int 0, .int 0, .int 0, .int 0, .int 0, .int 0])), (u_0_7, .inr (10, [.ref u_0_0, .ref u_0_6])), (u_0_8, .inr (8, [.ref u_0_0, .ref u_0_6])), (u_0_9, .inr (0, [.ref u_0_0, .ref u_0_6])), (u_0_10, .inr (9, [.ref u_0_0, .ref u_0_6, .ref u_0_1])), (u_0_11, .inr (2, [.ref u_0_0, .ref u_0_6, .ref u_0_1, .ref u_0_12, .ref u_0_14, .ref u_0_16, .int 0, .int 0])), (u_0_12, .inr (1, [.ref u_0_13, .int 0])), (u_0_13, .inl (cI, 32, .inl (fun _ => 0))), (u_0_14, .inr (1, [.ref u_0_15, .int 0])), (u_0_15, .inl (cI, 32, .inl (fun _ => 0))), (u_0_16, .inl (cI, 16, .inl (fun _ => 0))), (u_0_17, .inr (3, [.ref u_0_0, .ref u_0_6, .ref u_0_1, .ref u_0_18, .int 0, .int 0, .int 0, .int 0, .int 0, .int 0, .int 0])), (u_0_18, .inl (cI, 256, .inl (fun _ => 0))), (u_0_19, .inl (cI, 3, .inl (fun _ => 0))), (q_8, .inr (12, [.int 0, .ref u_8_0, .ref u_8_1, .ref u_8_2, .int 0, .int 0, .int 0, .int 0, .int 0, .int 0, .int 0, .int 0, .int 0, .int 0, .ref u_8_3, .ref u_8_4, .int 0, .int 0, .int 0, .ref u_8_5, .int 0, .ref u_8_6, .int 0, .ref u_8_7, .ref u_8_8, .ref u_8_9])), (u_8_0, .inl (cI, 8192, .inl (fun _ => 0))), (u_8_1, .inl (cI, 4, .inl (fun _ => 0))), (u_8_2, .inl (cI, 16, .inl (fun _ => 0))), (u_8_3, .inl (cI, 3, .inl (fun _ => 0))), (u_8_4, .inl (cI, 6, .inl (fun _ => 0))), (u_8_5, .inl (cI, 80, .inl (fun _ => 0))), (u_8_6, .inl (cI, 80, .inl (fun _ => 0))), (u_8_7, .inl (cI, 80, .inl (fun _ => 0))), (u_8_8, .inl (cI, 80, .inl (fun _ => 0))), (u_8_9, .inl (cI, 512, .inl (fun _ => 0)))] := hD
  refine W.widen (k := 32) (n := 17687) (Nat.le_of_ble_eq_true rfl) (Nat.le_of_ble_eq_true rfl) ?_
  refine lv_astore_n (lv' := [(2, .ref q_8), (1, .ref q_0), (0, .ref b)]) hx hb dL_law_15 rfl hl (by decide) rfl (fun ls hl => ?_)
  refine lv_iconst (v := 1) hx hb dL_law_16 (by decide) ?_
  refine va_newa (atype := .long) (ty := .long) (a0 := (1, .inr (.inl (fun _ => 0)))) (N' := 1) hx hb (hts _ (List.mem_cons_of_mem _ wd_1095)) rfl hK hP hD hS hA (fun _ => rfl) (by decide) (by decide) (by decide) (Nat.le_of_ble_eq_true rfl) (Nat.le_of_ble_eq_true rfl) dL_law_17 (fun q_17 c_17 H hK9 hP hD hS => ?_)
  have hc9 : c_17 = cJ := arr_same (hK9.2 2 (c_17, .long) rfl).2 (hKJ.2 2 (cJ, .long) rfl).2
  rw [hc9] at hP hD
  clear hK9 hc9
  have hP : va_P D vwCl [(q_0, .inr (11, [.ref u_0_0, .ref u_0_6, .ref u_0_7, .ref u_0_8, .ref u_0_9, .ref u_0_10, .ref u_0_11, .ref u_0_17, .ref u_0_19, .int 0])), (u_0_0, .inr (5, [.ref u_0_1, .ref u_0_4, .ref u_0_5, .int 0])), (u_0_1, .inr (6, [.ref u_0_2, .ref u_0_3])), (u_0_2, .inl (cB, 8192, .inl (fun _ => 0))), (u_0_3, .inl (cI, 4, .inl (fun _ => 0))), (u_0_4, .inr (7, [.long 0])), (u_0_5, .inl (cI, 16, .inl (fun _ => 0))), (u_0_6, .inr (4, [.ref u_0_0, .ref u_0_1, .int 0, .int 0, .int 0, .int 0, .int 0, .int 0])), (u_0_7, .inr (10, [.ref u_0_0, .ref u_0_6])), (u_0_8, .inr (8, [.ref u_0_0, .ref u_0_6])), (u_0_9, .inr (0, [.ref u_0_0, .ref u_0_6])), (u_0_10, .inr (9, [.ref u_0_0, .ref u_0_6, .ref u_0_1])), (u_0_11, .inr (2, [.ref u_0_0, .ref u_0_6, .ref u_0_1, .ref u_0_12, .ref u_0_14, .ref u_0_16, .int 0, .int 0])), (u_0_12, .inr (1, [.ref u_0_13, .int 0])), (u_0_13, .inl (cI, 32, .inl (fun _ => 0))), (u_0_14, .inr (1, [.ref u_0_15, .int 0])), (u_0_15, .inl (cI, 32, .inl (fun _ => 0))), (u_0_16, .inl (cI, 16, .inl (fun _ => 0))), (u_0_17, .inr (3, [.ref u_0_0, .ref u_0_6, .ref u_0_1, .ref u_0_18, .int 0, .int 0, .int 0, .int 0, .int 0, .int 0, .int 0])), (u_0_18, .inl (cI, 256, .inl (fun _ => 0))), (u_0_19, .inl (cI, 3, .inl (fun _ => 0))), (q_8, .inr (12, [.int 0, .ref u_8_0, .ref u_8_1, .ref u_8_2, .int 0, .int 0, .int 0, .int 0, .int 0, .int 0, .int 0, .int 0, .int 0, .int 0, .ref u_8_3, .ref u_8_4, .int 0, .int 0, .int 0, .ref u_8_5, .int 0, .ref u_8_6, .int 0, .ref u_8_7, .ref u_8_8, .ref u_8_9])), (u_8_0, .inl (cI, 8192, .inl (fun _ => 0))), (u_8_1, .inl (cI, 4, .inl (fun _ => 0))), (u_8_2, .inl (cI, 16, .inl (fun _ => 0))), (u_8_3, .inl (cI, 3, .inl (fun _ => 0))), (u_8_4, .inl (cI, 6, .inl (fun _ => 0))), (u_8_5, .inl (cI, 80, .inl (fun _ => 0))), (u_8_6, .inl (cI, 80, .inl (fun _ => 0))), (u_8_7, .inl (cI, 80, .inl (fun _ => 0))), (u_8_8, .inl (cI, 80, .inl (fun _ => 0))), (u_8_9, .inl (cI, 512, .inl (fun _ => 0))), (q_17, .inl (cJ, 1, .inr (.inl (fun _ => 0))))] H := hP
  have hD : va_D A [(q_0, .inr (11, [.ref u_0_0, .ref u_0_6, .ref u_0_7, .ref u_0_8, .ref u_0_9, .ref u_0_10, .ref u_0_11, .ref u_0_17, .ref u_0_19, .int 0])), (u_0_0, .inr (5, [.ref u_0_1, .ref u_0_4, .ref u_0_5, .int 0])), (u_0_1, .inr (6, [.ref u_0_2, .ref u_0_3])), (u_0_2, .inl (cB, 8192, .inl (fun _ => 0))), (u_0_3, .inl (cI, 4, .inl (fun _ => 0))), (u_0_4, .inr (7, [.long 0])), (u_0_5, .inl (cI, 16, .inl (fun _ => 0))), (u_0_6, .inr (4, [.ref u_0_0, .ref u_0_1, .int 0, .int 0, .int 0, .int 0, .int 0, .int 0])), (u_0_7, .inr (10, [.ref u_0_0, .ref u_0_6])), (u_0_8, .inr (8, [.ref u_0_0, .ref u_0_6])), (u_0_9, .inr (0, [.ref u_0_0, .ref u_0_6])), (u_0_10, .inr (9, [.ref u_0_0, .ref u_0_6, .ref u_0_1])), (u_0_11, .inr (2, [.ref u_0_0, .ref u_0_6, .ref u_0_1, .ref u_0_12, .ref u_0_14, .ref u_0_16, .int 0, .int 0])), (u_0_12, .inr (1, [.ref u_0_13, .int 0])), (u_0_13, .inl (cI, 32, .inl (fun _ => 0))), (u_0_14, .inr (1, [.ref u_0_15, .int 0])), (u_0_15, .inl (cI, 32, .inl (fun _ => 0))), (u_0_16, .inl (cI, 16, .inl (fun _ => 0))), (u_0_17, .inr (3, [.ref u_0_0, .ref u_0_6, .ref u_0_1, .ref u_0_18, .int 0, .int 0, .int 0, .int 0, .int 0, .int 0, .int 0])), (u_0_18, .inl (cI, 256, .inl (fun _ => 0))), (u_0_19, .inl (cI, 3, .inl (fun _ => 0))), (q_8, .inr (12, [.int 0, .ref u_8_0, .ref u_8_1, .ref u_8_2, .int 0, .int 0, .int 0, .int 0, .int 0, .int 0, .int 0, .int 0, .int 0, .int 0, .ref u_8_3, .ref u_8_4, .int 0, .int 0, .int 0, .ref u_8_5, .int 0, .ref u_8_6, .int 0, .ref u_8_7, .ref u_8_8, .ref u_8_9])), (u_8_0, .inl (cI, 8192, .inl (fun _ => 0))), (u_8_1, .inl (cI, 4, .inl (fun _ => 0))), (u_8_2, .inl (cI, 16, .inl (fun _ => 0))), (u_8_3, .inl (cI, 3, .inl (fun _ => 0))), (u_8_4, .inl (cI, 6, .inl (fun _ => 0))), (u_8_5, .inl (cI, 80, .inl (fun _ => 0))), (u_8_6, .inl (cI, 80, .inl (fun _ => 0))), (u_8_7, .inl (cI, 80, .inl (fun _ => 0))), (u_8_8, .inl (cI, 80, .inl (fun _ => 0))), (u_8_9, .inl (cI, 512, .inl (fun _ => 0))), (q_17, .inl (cJ, 1, .inr (.inl (fun _ => 0))))] := hD
  refine W.widen (k := 33) (n := 17688) (Nat.le_of_ble_eq_true rfl) (Nat.le_of_ble_eq_true rfl) ?_
  refine lv_astore_n (lv' := [(3, .ref q_17), (2, .ref q_8), (1, .ref q_0), (0, .ref b)]) hx hb dL_law_19 rfl hl (by decide) rfl (fun ls hl => ?_)
  refine lv_iconst (v := 0) hx hb dL_law_20 (by decide) ?_
  refine lv_istore (lv' := [(4, .int 0), (3, .ref q_17), (2, .ref q_8), (1, .ref q_0), (0, .ref b)]) hx hb dL_law_21 hl (by decide) rfl (fun ls hl => ?_)
  have hP : va_P D vwCl (wLw cI cB cJ q_0 q_8 u_0_7 u_0_8 u_0_9 u_0_10 u_0_11 u_0_17 u_0_6 u_0_0 u_0_1 u_0_4 u_0_2 u_0_3 u_0_5 u_0_12 u_0_13 u_0_14 u_0_15 u_0_16 u_0_18 u_0_19 u_8_0 u_8_1 u_8_2 u_8_3 u_8_4 u_8_5 u_8_6 u_8_7 u_8_8 u_8_9 q_17 0 0 0 0 0 0 0 0 0 0 0 0 0 0 0 0 0 0 0 0 0 0 0 0 0 0 0 0 0 0 0 0 0 0 (fun _ => 0) (fun _ => 0) (fun _ => 0) 0 (fun _ => 0) 0 (fun _ => 0) (fun _ => 0) (fun _ => 0) (fun _ => 0) (fun _ => 0) (fun _ => 0) (fun _ => 0) (fun _ => 0) (fun _ => 0) (fun _ => 0) (fun _ => 0) (fun _ => 0) (fun _ => 0) (fun _ => 0) (fun _ => 0)) H := hP.sub [0, 21, 8, 9, 10, 11, 12, 18, 7, 1, 2, 5, 3, 4, 6, 13, 14, 15, 16, 17, 19, 20, 22, 23, 24, 25, 26, 27, 28, 29, 30, 31, 32] rfl
  have hD : va_D A (wLw cI cB cJ q_0 q_8 u_0_7 u_0_8 u_0_9 u_0_10 u_0_11 u_0_17 u_0_6 u_0_0 u_0_1 u_0_4 u_0_2 u_0_3 u_0_5 u_0_12 u_0_13 u_0_14 u_0_15 u_0_16 u_0_18 u_0_19 u_8_0 u_8_1 u_8_2 u_8_3 u_8_4 u_8_5 u_8_6 u_8_7 u_8_8 u_8_9 q_17 0 0 0 0 0 0 0 0 0 0 0 0 0 0 0 0 0 0 0 0 0 0 0 0 0 0 0 0 0 0 0 0 0 0 (fun _ => 0) (fun _ => 0) (fun _ => 0) 0 (fun _ => 0) 0 (fun _ => 0) (fun _ => 0) (fun _ => 0) (fun _ => 0) (fun _ => 0) (fun _ => 0) (fun _ => 0) (fun _ => 0) (fun _ => 0) (fun _ => 0) (fun _ => 0) (fun _ => 0) (fun _ => 0) (fun _ => 0) (fun _ => 0)) := hD.sub [0, 21, 8, 9, 10, 11, 12, 18, 7, 1, 2, 5, 3, 4, 6, 13, 14, 15, 16, 17, 19, 20, 22, 23, 24, 25, 26, 27, 28, 29, 30, 31, 32] (by decide) rfl
  have hl : lv_has ls 8 [(0, .ref b), (1, .ref q_0), (2, .ref q_8), (3, .ref q_17), (4, .int 0)] := lv_sub hl [4, 3, 2, 1, 0] rfl
  refine lv_iload hx hb dL_law_23 (lv_at hl 4 rfl) ?_
  refine lv_aload_n hx hb dL_law_25 rfl (lv_at hl 0 rfl) ?_
  refine va_slen hx hb hX hbl hbA hS dL_law_26 ?_
  refine lv_iconst (v := 5) hx hb dL_law_27 (by decide) ?_
  refine lv_isub hx hb dL_law_28 ?_
  refine lv_icmp_gt (tgt := 539) hx hb dL_law_29 (by decide) (fun c_29 => absurd c_29 (by decide)) (fun c_29 => ?_)
  clear c_29
  refine lv_aload_n hx hb dL_law_32 rfl (lv_at hl 0 rfl) ?_
  refine lv_iload hx hb dL_law_33 (lv_at hl 4 rfl) ?_
  have hi0 : 0 ≤ (0 : Int32).toInt := by decide
  have hiL : (0 : Int32).toInt + 4 < ((30 : Nat) : Int) := by decide
  refine va_sld hx hb hX hbl hbA hS (vs0 hi0 hiL) dL_law_35 ?_
  refine lv_bipush (v := 15) hx hb dL_law_36 (by decide) ?_
  refine lv_iand hx hb dL_law_38 ?_
  rw [show rS (0 : Int32).toNatClampNeg &&& 15 = 1 by decide]
  refine lv_tableIn (tgt := 132) (off := 93) hx hb dL_law_39 (by decide) (by decide) rfl (by decide) (lr_1 (y1 := 1) (y2 := 16777215) hx hb hml hown hts hA hKJ hNW hZT0 hTW0 hTN hst hX hbl hbA hi0 hiL hL (by decide) (by decide) v0_t (Nat.le_of_ble_eq_true rfl) (Nat.le_of_ble_eq_true rfl) hP hD hS hl (fun u_145 u_163 H locs ls eu_145 eu_163 hP hD hS hl => ?_))
  have h8_u_145 : u_145 = kc0 := eu_145
  have h8_u_163 : u_163 = km0 := eu_163
  subst h8_u_145 h8_u_163
  refine lv_iinc (v := 5) (lv' := [(4, .int 5), (0, .ref b), (1, .ref q_0), (2, .ref q_8), (3, .ref q_17)]) hx hb dL_law_533 hl (k := 4) rfl (by decide) (by decide) rfl (fun ls hl => ?_)
  refine lv_goto (tgt := 23) hx hb dL_law_536 (by decide) ?_
  have hl : lv_has ls 8 [(0, .ref b), (1, .ref q_0), (2, .ref q_8), (3, .ref q_17), (4, .int 5)] := lv_sub hl [1, 2, 3, 4, 0] rfl
  refine lv_iload hx hb dL_law_23 (lv_at hl 4 rfl) ?_
  refine lv_aload_n hx hb dL_law_25 rfl (lv_at hl 0 rfl) ?_
  refine va_slen hx hb hX hbl hbA hS dL_law_26 ?_
  refine lv_iconst (v := 5) hx hb dL_law_27 (by decide) ?_
  refine lv_isub hx hb dL_law_28 ?_
  refine lv_icmp_gt (tgt := 539) hx hb dL_law_29 (by decide) (fun c_29 => absurd c_29 (by decide)) (fun c_29 => ?_)
  clear c_29
  refine lv_aload_n hx hb dL_law_32 rfl (lv_at hl 0 rfl) ?_
  refine lv_iload hx hb dL_law_33 (lv_at hl 4 rfl) ?_
  have hi0 : 0 ≤ (5 : Int32).toInt := by decide
  have hiL : (5 : Int32).toInt + 4 < ((30 : Nat) : Int) := by decide
  refine va_sld hx hb hX hbl hbA hS (vs0 hi0 hiL) dL_law_35 ?_
  refine lv_bipush (v := 15) hx hb dL_law_36 (by decide) ?_
  refine lv_iand hx hb dL_law_38 ?_
  rw [show rS (5 : Int32).toNatClampNeg &&& 15 = 6 by decide]
  refine lv_tableIn (tgt := 358) (off := 319) hx hb dL_law_39 (by decide) (by decide) rfl (by decide) (lr_6 (y1 := 1) (y2 := 1) hx hb hml hown hts hA hKJ hNW hZT0 hTW0 hTN hst hX hbl hbA hi0 hiL hL (by decide) (by decide) v1_t (Nat.le_of_ble_eq_true rfl) (Nat.le_of_ble_eq_true rfl) hP hD hS hl (fun u_372 u_390 H locs ls eu_372 eo_372 eu_390 hP hD hS hl => ?_))
  have h8_u_372 : u_372 = (kc1, ko1) := Prod.ext eu_372 eo_372
  have h8_u_390 : u_390 = km1 := eu_390
  subst h8_u_372 h8_u_390
  refine lv_iinc (v := 10) (lv' := [(4, .int 10), (0, .ref b), (1, .ref q_0), (2, .ref q_8), (3, .ref q_17)]) hx hb dL_law_533 hl (k := 4) rfl (by decide) (by decide) rfl (fun ls hl => ?_)
  refine lv_goto (tgt := 23) hx hb dL_law_536 (by decide) ?_
  have hl : lv_has ls 8 [(0, .ref b), (1, .ref q_0), (2, .ref q_8), (3, .ref q_17), (4, .int 10)] := lv_sub hl [1, 2, 3, 4, 0] rfl
  refine lv_iload hx hb dL_law_23 (lv_at hl 4 rfl) ?_
  refine lv_aload_n hx hb dL_law_25 rfl (lv_at hl 0 rfl) ?_
  refine va_slen hx hb hX hbl hbA hS dL_law_26 ?_
  refine lv_iconst (v := 5) hx hb dL_law_27 (by decide) ?_
  refine lv_isub hx hb dL_law_28 ?_
  refine lv_icmp_gt (tgt := 539) hx hb dL_law_29 (by decide) (fun c_29 => absurd c_29 (by decide)) (fun c_29 => ?_)
  clear c_29
  refine lv_aload_n hx hb dL_law_32 rfl (lv_at hl 0 rfl) ?_
  refine lv_iload hx hb dL_law_33 (lv_at hl 4 rfl) ?_
  have hi0 : 0 ≤ (10 : Int32).toInt := by decide
  have hiL : (10 : Int32).toInt + 4 < ((30 : Nat) : Int) := by decide
  refine va_sld hx hb hX hbl hbA hS (vs0 hi0 hiL) dL_law_35 ?_
  refine lv_bipush (v := 15) hx hb dL_law_36 (by decide) ?_
  refine lv_iand hx hb dL_law_38 ?_
  rw [show rS (10 : Int32).toNatClampNeg &&& 15 = 3 by decide]
  refine lv_tableIn (tgt := 182) (off := 143) hx hb dL_law_39 (by decide) (by decide) rfl (by decide) (lr_3 (y1 := 2097152) (y2 := 512) hx hb hml hown hts hA hKJ hNW hZT0 hTW0 hTN hst hX hbl hbA hi0 hiL hL (by decide) (by decide)  (Nat.le_of_ble_eq_true rfl) (Nat.le_of_ble_eq_true rfl) hP hD hS hl (fun u_205 u_231 H locs ls eu_205 eu_231 hP hD hS hl => ?_))
  have h8_u_205 : u_205 = kc2 := eu_205
  have h8_u_231 : u_231 = km2 := eu_231
  subst h8_u_205 h8_u_231
  refine lv_iinc (v := 15) (lv' := [(4, .int 15), (0, .ref b), (1, .ref q_0), (2, .ref q_8), (3, .ref q_17)]) hx hb dL_law_533 hl (k := 4) rfl (by decide) (by decide) rfl (fun ls hl => ?_)
  refine lv_goto (tgt := 23) hx hb dL_law_536 (by decide) ?_
  have hl : lv_has ls 8 [(0, .ref b), (1, .ref q_0), (2, .ref q_8), (3, .ref q_17), (4, .int 15)] := lv_sub hl [1, 2, 3, 4, 0] rfl
  refine lv_iload hx hb dL_law_23 (lv_at hl 4 rfl) ?_
  refine lv_aload_n hx hb dL_law_25 rfl (lv_at hl 0 rfl) ?_
  refine va_slen hx hb hX hbl hbA hS dL_law_26 ?_
  refine lv_iconst (v := 5) hx hb dL_law_27 (by decide) ?_
  refine lv_isub hx hb dL_law_28 ?_
  refine lv_icmp_gt (tgt := 539) hx hb dL_law_29 (by decide) (fun c_29 => absurd c_29 (by decide)) (fun c_29 => ?_)
  clear c_29
  refine lv_aload_n hx hb dL_law_32 rfl (lv_at hl 0 rfl) ?_
  refine lv_iload hx hb dL_law_33 (lv_at hl 4 rfl) ?_
  have hi0 : 0 ≤ (15 : Int32).toInt := by decide
  have hiL : (15 : Int32).toInt + 4 < ((30 : Nat) : Int) := by decide
  refine va_sld hx hb hX hbl hbA hS (vs0 hi0 hiL) dL_law_35 ?_
  refine lv_bipush (v := 15) hx hb dL_law_36 (by decide) ?_
  refine lv_iand hx hb dL_law_38 ?_
  rw [show rS (15 : Int32).toNatClampNeg &&& 15 = 4 by decide]
  refine lv_tableIn (tgt := 237) (off := 198) hx hb dL_law_39 (by decide) (by decide) rfl (by decide) (lr_4 (y1 := 512) (y2 := 56577) (y3 := 268437504) (y4 := 6) hx hb hml hown hts hA hKJ hNW hZT0 hTW0 hTN hst hX hbl hbA hi0 hiL hL (by decide) (by decide) (by decide) (by decide) v3_t (Nat.le_of_ble_eq_true rfl) (Nat.le_of_ble_eq_true rfl) hP hD hS hl (fun u_272 u_312 H locs ls eu_272 eu_312 hP hD hS hl => ?_))
  have h8_u_272 : u_272 = kc3 := eu_272
  have h8_u_312 : u_312 = km3 := eu_312
  subst h8_u_272 h8_u_312
  refine lv_iinc (v := 20) (lv' := [(4, .int 20), (0, .ref b), (1, .ref q_0), (2, .ref q_8), (3, .ref q_17)]) hx hb dL_law_533 hl (k := 4) rfl (by decide) (by decide) rfl (fun ls hl => ?_)
  refine lv_goto (tgt := 23) hx hb dL_law_536 (by decide) ?_
  have hl : lv_has ls 8 [(0, .ref b), (1, .ref q_0), (2, .ref q_8), (3, .ref q_17), (4, .int 20)] := lv_sub hl [1, 2, 3, 4, 0] rfl
  refine lv_iload hx hb dL_law_23 (lv_at hl 4 rfl) ?_
  refine lv_aload_n hx hb dL_law_25 rfl (lv_at hl 0 rfl) ?_
  refine va_slen hx hb hX hbl hbA hS dL_law_26 ?_
  refine lv_iconst (v := 5) hx hb dL_law_27 (by decide) ?_
  refine lv_isub hx hb dL_law_28 ?_
  refine lv_icmp_gt (tgt := 539) hx hb dL_law_29 (by decide) (fun c_29 => absurd c_29 (by decide)) (fun c_29 => ?_)
  clear c_29
  refine lv_aload_n hx hb dL_law_32 rfl (lv_at hl 0 rfl) ?_
  refine lv_iload hx hb dL_law_33 (lv_at hl 4 rfl) ?_
  have hi0 : 0 ≤ (20 : Int32).toInt := by decide
  have hiL : (20 : Int32).toInt + 4 < ((30 : Nat) : Int) := by decide
  refine va_sld hx hb hX hbl hbA hS (vs0 hi0 hiL) dL_law_35 ?_
  refine lv_bipush (v := 15) hx hb dL_law_36 (by decide) ?_
  refine lv_iand hx hb dL_law_38 ?_
  rw [show rS (20 : Int32).toNatClampNeg &&& 15 = 9 by decide]
  refine lv_tableIn (tgt := 451) (off := 412) hx hb dL_law_39 (by decide) (by decide) rfl (by decide) (lr_9 (y1 := 1) hx hb hml hown hts hA hKJ hNW hZT0 hTW0 hTN hst hX hbl hbA hi0 hiL hL (by decide) v4_t v4_a v3_m (Or.inl rfl) (Or.inl rfl) (Nat.le_of_ble_eq_true rfl) (Nat.le_of_ble_eq_true rfl) hP hD hS hl (fun u_459 u_471 H locs ls eu_459 eo_459 eu_471 hP hD hS hl => ?_))
  have h8_u_459 : u_459 = (kc4, ko4) := Prod.ext eu_459 eo_459
  have h8_u_471 : u_471 = km4 := eu_471
  subst h8_u_459 h8_u_471
  refine lv_iinc (v := 25) (lv' := [(4, .int 25), (0, .ref b), (1, .ref q_0), (2, .ref q_8), (3, .ref q_17)]) hx hb dL_law_533 hl (k := 4) rfl (by decide) (by decide) rfl (fun ls hl => ?_)
  refine lv_goto (tgt := 23) hx hb dL_law_536 (by decide) ?_
  have hl : lv_has ls 8 [(0, .ref b), (1, .ref q_0), (2, .ref q_8), (3, .ref q_17), (4, .int 25)] := lv_sub hl [1, 2, 3, 4, 0] rfl
  refine lv_iload hx hb dL_law_23 (lv_at hl 4 rfl) ?_
  refine lv_aload_n hx hb dL_law_25 rfl (lv_at hl 0 rfl) ?_
  refine va_slen hx hb hX hbl hbA hS dL_law_26 ?_
  refine lv_iconst (v := 5) hx hb dL_law_27 (by decide) ?_
  refine lv_isub hx hb dL_law_28 ?_
  refine lv_icmp_gt (tgt := 539) hx hb dL_law_29 (by decide) (fun c_29 => absurd c_29 (by decide)) (fun c_29 => ?_)
  clear c_29
  refine lv_aload_n hx hb dL_law_32 rfl (lv_at hl 0 rfl) ?_
  refine lv_iload hx hb dL_law_33 (lv_at hl 4 rfl) ?_
  have hi0 : 0 ≤ (25 : Int32).toInt := by decide
  have hiL : (25 : Int32).toInt + 4 < ((30 : Nat) : Int) := by decide
  refine va_sld hx hb hX hbl hbA hS (vs0 hi0 hiL) dL_law_35 ?_
  refine lv_bipush (v := 15) hx hb dL_law_36 (by decide) ?_
  refine lv_iand hx hb dL_law_38 ?_
  rw [show rS (25 : Int32).toNatClampNeg &&& 15 = 12 by decide]
  refine lv_tableIn (tgt := 520) (off := 481) hx hb dL_law_39 (by decide) (by decide) rfl (by decide) (lr_12f  hx hb hml hown hts hA hKJ hNW hZT0 hTW0 hTN hst hX hbl hbA hi0 hiL hL  v5_q1 (Nat.le_of_ble_eq_true rfl) (Nat.le_of_ble_eq_true rfl) hP hD hS hl (fun H locs ls hS => ?_))
  refine va_forget (fun q h => hAi _ (hS.2.2 q h)) ?_
  refine W.widen (k := 1066) (n := 25934) (Nat.le_of_ble_eq_true rfl) (Nat.le_of_ble_eq_true rfl) ?_
  refine lv_iconst (v := 0) hx hb dL_law_531 (by decide) ?_
  exact rw_ret hx hb hr hlocks dL_law_532
