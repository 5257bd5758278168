set_option maxRecDepth 100000 in
theorem RL_tbl : Cond.initialized RL ∈ lw_tbl := (List.mem_of_getElem? (i := 94) rfl)
set_option maxRecDepth 100000 in
theorem NF_tbl : ∀ w ∈ nestF.map (fun q => Cond.fieldLinkNest q.1 q.2.1 q.2.2.1 q.2.2.2.1 q.2.2.2.2.1 q.2.2.2.2.2), w ∈ lw_tbl := mem_by [162, 172, 195, 218, 205, 210, 199, 168, 152, 200, 165, 151, 208, 217, 163, 220, 194, 159, 212, 202, 308, 206, 160, 196, 214, 167, 219, 156, 211, 201, 191, 158, 213, 192, 197, 166, 222, 169, 209, 190, 161, 215, 204] rfl
set_option maxRecDepth 100000 in
theorem NM_tbl : ∀ w ∈ nestM.map (fun q => Cond.methodLinkNest q.1 q.2.1 q.2.2.1 q.2.2.2), w ∈ lw_tbl := mem_by [125, 303, 131, 146] rfl
theorem NW_of {s : State} {a : Array Value} (h : ∀ w ∈ lw_tbl, w.before a s = true) : NW s :=
  ⟨fun q hq => va_tabs rfl rfl (h _ (NF_tbl _ (List.mem_map.mpr ⟨q, hq, rfl⟩))), fun q hq => va_tabs rfl rfl (h _ (NM_tbl _ (List.mem_map.mpr ⟨q, hq, rfl⟩)))⟩
set_option maxRecDepth 100000 in
theorem TD_tbl : ∀ w ∈ vxD.map Cond.declares, w ∈ lw_tbl := mem_by [455, 457, 459] rfl
set_option maxRecDepth 100000 in
theorem TC_tbl : ∀ w ∈ vxC.map (fun q => Cond.castable q q), w ∈ lw_tbl := mem_by [542, 454] rfl
theorem TN_of {s : State} {a : Array Value} (h : ∀ w ∈ lw_tbl, w.before a s = true) : TN s :=
  ⟨fun q hq => va_tabs rfl rfl (h _ (TD_tbl _ (List.mem_map.mpr ⟨q, hq, rfl⟩))), fun q hq => va_tabs rfl rfl (h _ (TC_tbl _ (List.mem_map.mpr ⟨q, hq, rfl⟩)))⟩
set_option maxRecDepth 100000 in
theorem TW_of {s : State} {b : Nat} (h : ∀ w ∈ lw_tbl, w.before #[Value.ref b] s = true) (hg : (Jvm.Cond.and given_1 narrow_1).before #[Value.ref b] s = true) : TW (fun q : Nat => s.heap.size ≤ q) s s.heap := by
  have hs := flat_of_before _ hg
  have hA : ∀ a : Nat, a < s.heap.size → ¬ (fun q : Nat => s.heap.size ≤ q) a := fun a h => Nat.not_le.mpr h
  exact ⟨vx_Zqof (h _ (List.mem_of_getElem? (i := 479) rfl)) (h _ (List.mem_of_getElem? (i := 108) rfl)) (hs _ (by decide +kernel)) hA, vx_Zqof (h _ (List.mem_of_getElem? (i := 481) rfl)) (h _ (List.mem_of_getElem? (i := 108) rfl)) (hs _ (by decide +kernel)) hA⟩
set_option maxRecDepth 100000 in
theorem ZT_of {s : State} {b : Nat} (h : ∀ w ∈ lw_tbl, w.before #[Value.ref b] s = true) (hg : (Jvm.Cond.and given_1 narrow_1).before #[Value.ref b] s = true) : ∃ aO aN : Nat, ZT aO aN (fun q : Nat => s.heap.size ≤ q) s s.heap := by
  have hs := flat_of_before _ hg
  have hA : ∀ a : Nat, a < s.heap.size → ¬ (fun q : Nat => s.heap.size ≤ q) a := fun a h => Nat.not_le.mpr h
  obtain ⟨aO, eaO, taO⟩ := va_Tof (tm := .static "MainframeCore" "OLD" "[I") (ty := .int) (N := 3) (f := fun j => .int (oldT j)) (A := fun q : Nat => s.heap.size ≤ q) (by decide) (hs (.arrayOf (.static "MainframeCore" "OLD" "[I") .int) (by decide +kernel)) (va_eqt (hs (.eq (.length (.static "MainframeCore" "OLD" "[I")) (.int 3)) (by decide +kernel))) (fun j hj => by
    rcases (show j = 0 ∨ j = 1 ∨ j = 2 by omega) with rfl | rfl | rfl
    · exact va_eqt (hs (.eq (.elem (.static "MainframeCore" "OLD" "[I") (.int 0)) (.int 40)) (by decide +kernel))
    · exact va_eqt (hs (.eq (.elem (.static "MainframeCore" "OLD" "[I") (.int 1)) (.int 32)) (by decide +kernel))
    · exact va_eqt (hs (.eq (.elem (.static "MainframeCore" "OLD" "[I") (.int 2)) (.int 24)) (by decide +kernel))) hA
  have zaO := va_Zof (A := fun q : Nat => s.heap.size ≤ q) (v := .ref aO) (h (.laysStatic "MainframeCore" "OLD" "[I") (List.mem_of_getElem? (i := 640) rfl)) (h (.initialized "MainframeCore") (List.mem_of_getElem? (i := 95) rfl)) eaO hA
  obtain ⟨aN, eaN, taN⟩ := va_Tof (tm := .static "MainframeCore" "NEW" "[I") (ty := .int) (N := 3) (f := fun j => .int (newT j)) (A := fun q : Nat => s.heap.size ≤ q) (by decide) (hs (.arrayOf (.static "MainframeCore" "NEW" "[I") .int) (by decide +kernel)) (va_eqt (hs (.eq (.length (.static "MainframeCore" "NEW" "[I")) (.int 3)) (by decide +kernel))) (fun j hj => by
    rcases (show j = 0 ∨ j = 1 ∨ j = 2 by omega) with rfl | rfl | rfl
    · exact va_eqt (hs (.eq (.elem (.static "MainframeCore" "NEW" "[I") (.int 0)) (.int 104)) (by decide +kernel))
    · exact va_eqt (hs (.eq (.elem (.static "MainframeCore" "NEW" "[I") (.int 1)) (.int 96)) (by decide +kernel))
    · exact va_eqt (hs (.eq (.elem (.static "MainframeCore" "NEW" "[I") (.int 2)) (.int 88)) (by decide +kernel))) hA
  have zaN := va_Zof (A := fun q : Nat => s.heap.size ≤ q) (v := .ref aN) (h (.laysStatic "MainframeCore" "NEW" "[I") (List.mem_of_getElem? (i := 642) rfl)) (h (.initialized "MainframeCore") (List.mem_of_getElem? (i := 95) rfl)) eaN hA
  exact ⟨aO, aN, zaO, taO, zaN, taN⟩
