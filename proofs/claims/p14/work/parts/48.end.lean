def rw_P (b : Addr) (args : Array Value) (s : State) : Prop := args = #[.ref b] ∧ s.IntsAt b rList ∧ (Jvm.Cond.and given_1 narrow_1).before args s = true
theorem hst9 {l : Launch} (h : l.flags = flags0) : l.stackTraces = false := by
  unfold Launch.stackTraces
  rw [h]
  decide +kernel
set_option maxHeartbeats 4000000 in
theorem rw_walk (l : Launch) (hst : l.stackTraces = false) (b : Addr) : MetFree l x (headSpec (Jvm.Cond.code x code maxLocals ret :: tables_1) room_1) (rw_P b) (fun _ _ _ _ _ => True) rw_Q := by
  refine MetFree.of_bodyS (code := code) (maxLocals := maxLocals) (ret := ret) (by decide) ?_ ?_
  · intro args s m h hn
    obtain ⟨meth, c, h1, h2, h3, h4, h5, h6, -, -⟩ := Cond.code_spec hn (atoms_spec (ws := Jvm.Cond.code x code maxLocals ret :: tables_1) h _ List.mem_cons_self)
    exact ⟨meth, c, h1, h2, h3, h4, h5, h6⟩
  · intro p e s m args below meth c s₁ B hml0 hP _
    obtain ⟨rfl, hx, hgv⟩ := hP
    obtain ⟨scr, harrAt, hlist, hof, hsmall⟩ := hx
    obtain ⟨hcb, hkn, -, -⟩ := State.arrayAt?_spec harrAt
    have hown : s.vm.findClass R_law = some m.cls := findClass_of_methodNamed B.named
    have hts0 : ∀ c ∈ (Jvm.Cond.code x code maxLocals ret :: tables_1), c.before #[Value.ref b] s = true := atoms_spec (ws := Jvm.Cond.code x code maxLocals ret :: tables_1) B.pre
    have hts : ∀ w ∈ lw_tbl, w.before #[Value.ref b] s = true := k2_hts_sels lw_privs (fun w hw => hts0 w (List.mem_cons_of_mem _ hw)) lw_privs_ok
    have hml : c.maxLocals = 8 := B.maxLocals_eq (hts0 _ List.mem_cons_self)
    have X₀ : Stand p l e room_1 s m #[Value.ref b] below meth c s₁ [] 0 0 := Stand.of_body B
    have hh0 : s₁.heap = s.heap := by rw [B.state]; rfl
    have hsz : scr.slots.size = rList.length := by rw [← Array.length_toList, hlist, List.length_map]
    have hval : ∀ j : Nat, j < rList.length → scr.slots[j]? = some (.int (rList.getD j 0)) := fun j hj => by
      rw [← Array.getElem?_toList, hlist]
      simp [hj]
    have hbl : b < s.heap.size := (Array.getElem?_eq_some_iff.mp hcb).1
    have hX : va_X b rList.length (fun j => rList.getD j 0) s s.heap := ⟨scr, hcb, hof, hkn, hsz, hval⟩
    have K : W p l e room_1 s m #[Value.ref b] below meth c s₁.heap [] 0 0 (rw_Z below #[Value.ref b] s) (entryFrame m ([Value.ref b] : List Value).toArray 8) := by
      rw [hh0]
      exact r_start l hst (by decide) rfl rfl ⟨B.exec, B.bytes, B.returns, hml, hown, hts, hX, hbl, B.notSynchronized, hgv⟩
    obtain ⟨t, a1, o, b1, b2, b3⟩ := K s₁ rfl X₀
    exact ⟨t, o, a1, b1, b2, b3⟩
theorem rw_ints : start2.about.IntsAt 0 rList := ⟨{ cls := 23, slots := start2.cells0, vm := .none }, rfl, rfl, ⟨(fun _ h => nomatch h), _, rfl, _, rfl⟩, by decide⟩
set_option maxHeartbeats 4000000 in
theorem refuted_1_2 : RefutedClaimed_1_2 := by
  have h9 := start2.atStart
  obtain ⟨hL, hW, ha, hl, hc, hk, hf, hfit, hheap, happ, hcl, hr, hp⟩ := h9
  obtain ⟨k, o, h1, h2, h3, rfl, hF⟩ := rw_walk launch0 (hst9 rfl) 0 start2.p0 start2.e0 ha hc hk start2.about ⟨0, 0⟩ start2.args0 Lib.HandBits.below0 hf ((Spec.applies_iff_loose hf).mp happ).1 ⟨rfl, rw_ints, hp⟩ trivial
  refine ⟨launch0, start2.p0, start2.e0, start2.about, ⟨0, 0⟩, start2.args0, Lib.HandBits.below0, rfl, start2.atStart, k, _, h1, h2, h3, ?_⟩
  intro hpost
  have hq : limb_1_2.after start2.args0 start2.about (.returned (some (.int 0))) _ = true := hpost.1
  rw [show limb_1_2 = Cond.eq .result (.int 1) from rfl] at hq
  exact absurd (Cond.after_iff.mp hq) (by
    rw [Cond.eq_ints (x := 0) (y := 1) rfl rfl]
    simp)
theorem refuted_claim : ¬ Claimed_1_2 := by
  intro h
  have h9 := start2.atStart
  obtain ⟨hL, hW, ha, hl, hc, hk, hf, hfit, hheap, happ, hcl, hr, hp⟩ := h9
  obtain ⟨k, o, h1, h2, h3, rfl, hF⟩ := rw_walk launch0 (hst9 rfl) 0 start2.p0 start2.e0 ha hc hk start2.about ⟨0, 0⟩ start2.args0 Lib.HandBits.below0 hf ((Spec.applies_iff_loose hf).mp happ).1 ⟨rfl, rw_ints, hp⟩ trivial
  obtain ⟨n, o', g1, g2, g3, g4⟩ := h launch0 rfl hL hW start2.p0 start2.e0 ha hc hk start2.about ⟨0, 0⟩ start2.args0 Lib.HandBits.below0 hf hfit hheap happ ⟨hcl, hr, hp⟩
  have e : n = k := by
    rcases Nat.lt_trichotomy n k with q | q | q
    · exact absurd (h1 n q) g3.not_within
    · exact q
    · exact absurd (g1 k q) h3.not_within
  subst e
  have e := g3.outcome_unique h3
  subst e
  have hq : limb_1_2.after start2.args0 start2.about (.returned (some (.int 0))) _ = true := g4.1
  rw [show limb_1_2 = Cond.eq .result (.int 1) from rfl] at hq
  exact absurd (Cond.after_iff.mp hq) (by
    rw [Cond.eq_ints (x := 0) (y := 1) rfl rfl]
    simp)
