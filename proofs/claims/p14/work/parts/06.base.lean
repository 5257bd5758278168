abbrev nestF : List (String × Nat × String × String × String × String) := [("MainframeCore", 105, "MainframeCore$Machine", "memory", "LMainframeCore$Memory;", "MainframeCore"), ("MainframeCore", 156, "MainframeCore$Machine", "fault", "I", "MainframeCore"), ("MainframeCore", 165, "MainframeCore$Instruction", "operation", "I", "MainframeCore"), ("MainframeCore", 202, "MainframeCore$Instruction", "a", "I", "MainframeCore"), ("MainframeCore", 205, "MainframeCore$Instruction", "\x72", "I", "MainframeCore"), ("MainframeCore", 211, "MainframeCore$Instruction", "s", "I", "MainframeCore"), ("MainframeCore", 233, "MainframeCore$Instruction", "i", "I", "MainframeCore"), ("MainframeCore", 84, "MainframeCore$Machine", "psw", "LMainframeCore$Psw;", "MainframeCore"), ("MainframeCore", 88, "MainframeCore$Psw", "word", "J", "MainframeCore"), ("MainframeCore$Control", 19, "MainframeCore$Instruction", "\x72", "I", "MainframeCore"), ("MainframeCore$Control", 25, "MainframeCore$Machine", "psw", "LMainframeCore$Psw;", "MainframeCore"), ("MainframeCore$Control", 31, "MainframeCore$Psw", "word", "J", "MainframeCore"), ("MainframeCore$Control", 53, "MainframeCore$Instruction", "s", "I", "MainframeCore"), ("MainframeCore$Control", 56, "MainframeCore$Instruction", "a", "I", "MainframeCore"), ("MainframeCore$Control", 73, "MainframeCore$Machine", "memory", "LMainframeCore$Memory;", "MainframeCore"), ("MainframeCore$Decimals", 101, "MainframeCore$Instruction", "b", "I", "MainframeCore"), ("MainframeCore$Decimals", 120, "MainframeCore$Instruction", "operation", "I", "MainframeCore"), ("MainframeCore$Decimals", 19, "MainframeCore$Machine", "memory", "LMainframeCore$Memory;", "MainframeCore"), ("MainframeCore$Decimals", 40, "MainframeCore$Instruction", "a", "I", "MainframeCore"), ("MainframeCore$Decimals", 58, "MainframeCore$Instruction", "\x72", "I", "MainframeCore"), ("MainframeCore$Decimals", 81, "MainframeCore$Decimal", "below", "Z", "MainframeCore"), ("MainframeCore$Decimals", 95, "MainframeCore$Instruction", "s", "I", "MainframeCore"), ("MainframeCore$Editor", 19, "MainframeCore$Machine", "memory", "LMainframeCore$Memory;", "MainframeCore"), ("MainframeCore$Editor", 30, "MainframeCore$Instruction", "i", "I", "MainframeCore"), ("MainframeCore$Editor", 36, "MainframeCore$Instruction", "a", "I", "MainframeCore"), ("MainframeCore$Editor", 66, "MainframeCore$Machine", "psw", "LMainframeCore$Psw;", "MainframeCore"), ("MainframeCore$Editor", 89, "MainframeCore$Instruction", "b", "I", "MainframeCore"), ("MainframeCore$Instruction", 15, "MainframeCore$Machine", "memory", "LMainframeCore$Memory;", "MainframeCore"), ("MainframeCore$Shifts", 19, "MainframeCore$Instruction", "a", "I", "MainframeCore"), ("MainframeCore$Shifts", 25, "MainframeCore$Instruction", "\x72", "I", "MainframeCore"), ("MainframeCore$Shifts", 34, "MainframeCore$Instruction", "operation", "I", "MainframeCore"), ("MainframeCore$Strings", 19, "MainframeCore$Machine", "memory", "LMainframeCore$Memory;", "MainframeCore"), ("MainframeCore$Strings", 26, "MainframeCore$Instruction", "a", "I", "MainframeCore"), ("MainframeCore$Strings", 46, "MainframeCore$Instruction", "operation", "I", "MainframeCore"), ("MainframeCore$Strings", 49, "MainframeCore$Instruction", "i", "I", "MainframeCore"), ("MainframeCore$Strings", 56, "MainframeCore$Machine", "psw", "LMainframeCore$Psw;", "MainframeCore"), ("MainframeCore$Strings", 83, "MainframeCore$Instruction", "b", "I", "MainframeCore"), ("MainframeCore$Words", 104, "MainframeCore$Machine", "psw", "LMainframeCore$Psw;", "MainframeCore"), ("MainframeCore$Words", 150, "MainframeCore$Instruction", "s", "I", "MainframeCore"), ("MainframeCore$Words", 19, "MainframeCore$Instruction", "operation", "I", "MainframeCore"), ("MainframeCore$Words", 45, "MainframeCore$Machine", "memory", "LMainframeCore$Memory;", "MainframeCore"), ("MainframeCore$Words", 49, "MainframeCore$Instruction", "a", "I", "MainframeCore"), ("MainframeCore$Words", 65, "MainframeCore$Instruction", "\x72", "I", "MainframeCore")]
abbrev nestM : List (String × Nat × MethodName × String) := [("MainframeCore", 9, ⟨"MainframeCore$Machine", "<init>", "()V"⟩, "MainframeCore"), ("MainframeCore$Decimals", 28, ⟨"MainframeCore$Decimal", "<init>", "()V"⟩, "MainframeCore"), ("MainframeCore$Machine", 11, ⟨"MainframeCore$Memory", "<init>", "()V"⟩, "MainframeCore"), ("MainframeCore$Machine", 20, ⟨"MainframeCore$Psw", "<init>", "()V"⟩, "MainframeCore")]
/-! The words of every contract here: the arrays' classes, a start, an end; one entry, one call, one return for all methods. -/
def NW (U : State) : Prop := (∀ q ∈ nestF, va_Nw (.fieldLinkNest q.1 q.2.1 q.2.2.1 q.2.2.2.1 q.2.2.2.2.1 q.2.2.2.2.2) U) ∧ ∀ q ∈ nestM, va_Nw (.methodLinkNest q.1 q.2.1 q.2.2.1 q.2.2.2) U
theorem NW.warm {s U : State} (h : NW s) (hW : s.WarmedH U.vm) : NW U := ⟨fun q hq => va_Nw.warmF hW (h.1 q hq), fun q hq => va_Nw.warmM hW (h.2 q hq)⟩
theorem NW.same {u U : State} (e : u.vm = U.vm) (h : NW u) : NW U := ⟨fun q hq => va_Nw.same rfl e (h.1 q hq), fun q hq => va_Nw.same rfl e (h.2 q hq)⟩
theorem NW.f {s : State} {A : Array Value} (h : NW s) (q : String × Nat × String × String × String × String) (hq : q ∈ nestF) : (Cond.fieldLinkNest q.1 q.2.1 q.2.2.1 q.2.2.2.1 q.2.2.2.2.1 q.2.2.2.2.2).before A s = true := va_Nw.use rfl (h.1 q hq)
abbrev TYS (cI cB : ClassId) : List (ClassId × FieldType) := [(cI, .int), (cB, .byte)]
def PcW (av : List Value) (sz : Nat) (D : va_G) (TY : List (ClassId × FieldType)) (W0 : va_W) : Array Value → State → Prop := va_Pc av (fun U => U.heap.size = sz ∧ va_P D vwCl W0 U.heap ∧ va_K D vwCl TY U ∧ va_D (fun _ => True) W0 ∧ NW U)
def atW (D : va_G) (TY : List (ClassId × FieldType)) (A : Nat → Prop) (W1 : va_W) (t : State) : Prop := va_P D vwCl W1 t.heap ∧ va_K D vwCl TY t ∧ va_D A W1
theorem fb_std {av : List Value} {sz : Nat} {D : va_G} {TY : List (ClassId × FieldType)} {W0 : va_W} : FrameBlind (PcW av sz D TY W0) := fun a U g mk q => by
  obtain ⟨q0, q1, qP, qK, qD, qN⟩ := q
  exact ⟨q0, q1, qP, va_K.moved (u := U) (U := U.calling g mk a) (Vm.Alike.refl U.vm) qK, qD, NW.same rfl qN⟩
theorem preS_std {s : State} {H : Heap} {D : va_G} {TY : List (ClassId × FieldType)} {W0 : va_W} {A : Nat → Prop} {As : List Value} (hP : va_P D vwCl W0 H) (hK : va_K D vwCl TY s) (hD : va_D A W0) (hN : NW s) : PreS s H (PcW As H.size D TY W0) As :=
  ⟨fb_std, fun U hU hW => ⟨rfl, by rw [hU], by rw [hU]; exact hP, va_K.moved hW.alike hK, hD.weaken (fun _ _ _ _ => trivial), hN.warm hW⟩⟩
theorem preV_std {s : State} {H : Heap} {D : va_G} {TY : List (ClassId × FieldType)} {W0 : va_W} {A : Nat → Prop} {b ci q0 : Nat} {q : vw_C} {fs : List Value} {As : List Value} (hP : va_P D vwCl W0 H) (hK : va_K D vwCl TY s) (hD : va_D A W0) (hN : NW s) (hc : vwCl[ci]? = some q) (he : W0[q0]? = some (b, .inr (ci, fs))) : PreV s H q.1 b (PcW (.ref b :: As) H.size D TY W0) As :=
  ⟨fb_std, va_recv hK hP hc he, fun U hU hW => ⟨rfl, by rw [hU], by rw [hU]; exact hP, va_K.moved hW.alike hK, hD.weaken (fun _ _ _ _ => trivial), hN.warm hW⟩⟩
def MetW (l : Launch) (y : MethodName) (ws : List Cond) (rm : Room) (D : va_G) (TY : List (ClassId × FieldType)) (W0 : va_W) (sz : Nat) (av : List Value) (Qf : (Nat → Prop) → Array Value → State → Outcome → State → Prop) (mc ms : Nat) : Prop := Met l y ws rm (PcW av sz D TY W0) (Qf (va_A W0 sz)) mc ms (va_A W0 sz)
theorem met_std {l : Launch} {y : MethodName} {ws ws' : List Cond} {rm : Room} {cc : ByteArray} {maxL : Nat} {ret : Option FieldType} {D : va_G} {TY : List (ClassId × FieldType)} {W0 : va_W} {sz : Nat} {av : List Value} {Qf : (Nat → Prop) → Array Value → State → Outcome → State → Prop} {mc ms : Nat} (hy : plainName y.cls = true) (hw : ws = Cond.code y cc maxL ret :: ws') (hn : (lg_sl av).length ≤ maxL)
    (body : ∀ (p : Program) (e : Env) (s : State) (m : MethodId) (below : List Frame) (meth : Method) (c : Code) (A : Nat → Prop) (ls : Array Slot) (H : Heap), p.tables.exec = Jvm.exec → c.code = cc → meth.sig.returnType = ret → c.maxLocals = maxL → s.vm.findClass y.cls = some m.cls → (∀ w ∈ ws, w.before av.toArray s = true) → meth.locks = false → (∀ q : Nat, s.heap.size ≤ q → A q) → va_P D vwCl W0 H → va_K D vwCl TY s → va_D A W0 → va_S A s.heap H [] → NW s → lv_has ls maxL (lv_args 0 av) → W p l e rm s m av.toArray below meth c H [] 0 0 (MQ below (Qf A) av.toArray s mc ms A) (F0 m 0 ls [])) : MetW l y ws rm D TY W0 sz av Qf mc ms := by
  refine Met.ofW (cc := cc) (maxL := maxL) (ret := ret) hy hw ?_
  intro p e s m args below meth c s₁ B hml hv
  obtain ⟨rfl, hsz, hP, hK, hD0, hN⟩ := hv
  subst hsz
  have hl := lv_entry av (n := maxL) hn
  rw [lg_entry_eq]
  exact body p e s m below meth c (va_A W0 s.heap.size) _ s.heap B.exec B.bytes B.returns hml (findClass_of_methodNamed B.named) (atoms_spec (ws := ws) B.pre) B.notSynchronized (fun q h => Or.inr h) hP hK (hD0.self (sz := s.heap.size)) va_S.rf hN hl
section WC
variable {p : Program} {l : Launch} {e : Env} {R : Room} {s : State} {m : MethodId} {args : Array Value} {below : List Frame} {meth : Method} {c : Code} {H : Heap} {locs : List Loc} {cells slots : Nat} {Q : State → Prop} {cc : ByteArray} {pc : Nat} {ls : Array Slot} {rest : List Value} {A : Nat → Prop} {H0 : Heap}
/-- behind a call: the worlds joined, in the caller's own order -/
theorem back_std {D : va_G} {TY : List (ClassId × FieldType)} {A0 : Nat → Prop} {ws wc wr w1 w2 : va_W} {H H1 : Heap} {t : State} (hP : va_P D vwCl ws H) (hD : va_D A0 ws) (isC isR pm : List Nat) (hC : isC.map (fun i => ws[i]?) = wc.map some) (hR : isR.map (fun i => ws[i]?) = wr.map some) (hn : va_nd isR = true) (hdis : ∀ i ∈ isR, i ∉ isC) (hk : ∀ q : Nat, q < H.size → ¬ va_A wc H.size q → H1[q]? = H[q]?) (hF : ∀ q, va_A wc H.size q → A0 q) (hB : atW D TY (va_A wc H.size) w1 t) (ht : t.heap = H1) (hpn : va_nd pm = true) (hpm : pm.map (fun i => (wr ++ w1)[i]?) = w2.map some) : va_P D vwCl w2 H1 ∧ va_D A0 w2 := by
  obtain ⟨hP1, -, hD1⟩ := hB
  rw [ht] at hP1
  obtain ⟨hP2, hD2⟩ := va_join hP hD isC isR hC hR hn hdis hk hF hP1 hD1
  refine ⟨hP2.sub pm ?_, hD2.sub pm hpn hpm⟩
  have : ∀ (l : List Nat) (w : va_W), l.map (fun i => (wr ++ w1)[i]?) = w.map some → l.filterMap (fun i => (wr ++ w1)[i]?) = w := by
    intro l
    induction l with
    | nil => intro w h; cases w with
      | nil => rfl
      | cons a b => simp at h
    | cons x xs ih => intro w h; cases w with
      | nil => simp at h
      | cons a b =>
        simp only [List.map_cons, List.cons.injEq] at h
        simp only [List.filterMap_cons, h.1, ih b h.2]
  exact this pm w2 hpm
/-- a tableswitch whose value is none of those that have rows of their own: on at the default -/
theorem sw_def (hexec : p.tables.exec = Jvm.exec) (hb : c.code = cc) {dflt lo hi : Int} {offs : Array Int} {len : Nat} {x : Int32} {tgt : Nat} (vs : List Int) (hdg : decode cc pc = .ok (.tableswitch dflt lo hi offs, len)) (hsz : (hi - lo + 1).toNat ≤ offs.size) (hall : (List.range offs.size).all (fun j => offs[j]? == some dflt || vs.contains (lo + j)) = true) (hne : ∀ v ∈ vs, x.toInt ≠ v) (ht : (pc : Int) + dflt = (tgt : Int)) (k : W p l e R s m args below meth c H locs cells slots Q (F0 m tgt ls rest)) : W p l e R s m args below meth c H locs cells slots Q (F0 m pc ls (.int x :: rest)) := by
  by_cases h1 : x.toInt < lo
  · exact lv_tableOut hexec hb hdg (Or.inl h1) ht k
  by_cases h2 : hi < x.toInt
  · exact lv_tableOut hexec hb hdg (Or.inr h2) ht k
  have hj : (x.toInt - lo).toNat < offs.size := by omega
  have h3 := List.all_eq_true.mp hall _ (List.mem_range.mpr hj)
  simp only [Bool.or_eq_true, beq_iff_eq, List.contains_iff_mem] at h3
  rcases h3 with h3 | h3
  · exact lv_tableIn hexec hb hdg h1 h2 h3 ht k
  · exact absurd (by omega) (hne _ h3)
end WC
/-- a loop's measure; made by choice, so that no reduction runs a loop whose bounds are written numbers -/
noncomputable def msU (n k : Int32) : Nat := Classical.choose (⟨(n.toInt - k.toInt).toNat, rfl⟩ : ∃ x : Nat, x = (n.toInt - k.toInt).toNat)
noncomputable def msD (k : Int32) : Nat := Classical.choose (⟨(k.toInt + 1).toNat, rfl⟩ : ∃ x : Nat, x = (k.toInt + 1).toNat)
theorem msU_eq (n k : Int32) : msU n k = (n.toInt - k.toInt).toNat := Classical.choose_spec (⟨(n.toInt - k.toInt).toNat, rfl⟩ : ∃ x : Nat, x = (n.toInt - k.toInt).toNat)
theorem msD_eq (k : Int32) : msD k = (k.toInt + 1).toNat := Classical.choose_spec (⟨(k.toInt + 1).toNat, rfl⟩ : ∃ x : Nat, x = (k.toInt + 1).toNat)
theorem ms_up {k n : Int32} (h : ¬ n ≤ k) : msU n (k + 1) < msU n k := by
  rw [msU_eq, msU_eq]
  have h1 : k.toInt < n.toInt := by rw [← Int32.lt_iff_toInt_lt]; exact Int32.not_le.mp h
  have h2 : n.toInt < 2 ^ 31 := Int32.toInt_lt n
  have h3 : -2 ^ 31 ≤ k.toInt := Int32.le_toInt k
  have h4 : (k + 1).toInt = k.toInt + 1 := by
    rw [Int32.toInt_add]
    show (k.toInt + 1).bmod (2 ^ 32) = k.toInt + 1
    rw [Int.bmod_eq_of_le (by omega) (by omega)]
  omega
theorem zb_narrow {v : Int32} (h : v = 0 ∨ v = 1) : narrow .boolean (.int v) = .int v := by rcases h with rfl | rfl <;> decide
theorem zb_fits {v : Int32} (h : v = 0 ∨ v = 1) : fits .boolean (.int v) = true := by rcases h with rfl | rfl <;> decide
theorem nn_up {k n : Int32} (h0 : 0 ≤ k) (h : ¬ n ≤ k) : 0 ≤ k + 1 := by
  have h1 : k.toInt < n.toInt := by rw [← Int32.lt_iff_toInt_lt]; exact Int32.not_le.mp h
  have h2 : n.toInt < 2 ^ 31 := Int32.toInt_lt n
  have h3 : (0 : Int32).toInt ≤ k.toInt := Int32.le_iff_toInt_le.mp h0
  have h4 : (k + 1).toInt = k.toInt + 1 := by
    rw [Int32.toInt_add]
    show (k.toInt + 1).bmod (2 ^ 32) = k.toInt + 1
    have h5 : (0 : Int32).toInt = 0 := by decide
    rw [Int.bmod_eq_of_le (by omega) (by omega)]
  rw [Int32.le_iff_toInt_le, h4]
  omega
theorem vin_of {k b : Int32} {N : Nat} (hb : b.toInt = N) (h0 : 0 ≤ k) (h : ¬ b ≤ k) : vp_in k N := by
  rw [vp_in_iff]
  have h1 : k.toInt < b.toInt := by rw [← Int32.lt_iff_toInt_lt]; exact Int32.not_le.mp h
  have h3 : (0 : Int32).toInt ≤ k.toInt := Int32.le_iff_toInt_le.mp h0
  have h5 : (0 : Int32).toInt = 0 := by decide
  omega
theorem dn_toInt {k : Int32} (h : ¬ k < 0) : (k + (-1)).toInt = k.toInt - 1 := by
  have h1 : (0 : Int32).toInt ≤ k.toInt := Int32.le_iff_toInt_le.mp (Int32.not_lt.mp h)
  have h5 : (0 : Int32).toInt = 0 := by decide
  have h2 : k.toInt < 2 ^ 31 := Int32.toInt_lt k
  rw [Int32.toInt_add]
  show (k.toInt + -1).bmod (2 ^ 32) = k.toInt - 1
  rw [Int.bmod_eq_of_le (by omega) (by omega)]
  omega
theorem ms_dn {k : Int32} (h : ¬ k < 0) : msD (k + (-1)) < msD k := by
  rw [msD_eq, msD_eq]
  have h1 : (0 : Int32).toInt ≤ k.toInt := Int32.le_iff_toInt_le.mp (Int32.not_lt.mp h)
  have h5 : (0 : Int32).toInt = 0 := by decide
  rw [dn_toInt h]
  omega
theorem le_dn {k T : Int32} (h0 : k ≤ T) (h : ¬ k < 0) : k + (-1) ≤ T := by
  rw [Int32.le_iff_toInt_le, dn_toInt h]
  have := Int32.le_iff_toInt_le.mp h0
  omega
theorem vin_dn {k T : Int32} {N : Nat} (hT : T.toInt < N) (h : ¬ k < 0) (h0 : k ≤ T) : vp_in k N := by
  rw [vp_in_iff]
  have h1 : (0 : Int32).toInt ≤ k.toInt := Int32.le_iff_toInt_le.mp (Int32.not_lt.mp h)
  have h5 : (0 : Int32).toInt = 0 := by decide
  have := Int32.le_iff_toInt_le.mp h0
  omega
theorem max0 {n : Int32} : 0 ≤ (if n < 0 then 0 else n) := by
  split
  · decide
  · exact Int32.not_lt.mp (by assumption)
/-! the two tables of addresses, OLD and NEW: nobody writes them -/
def oldT : Nat → Int32 := fun j => if j = 0 then 40 else if j = 1 then 32 else 24
def newT : Nat → Int32 := fun j => if j = 0 then 104 else if j = 1 then 96 else 88
def ZT (aO aN : Nat) (A : Nat → Prop) (U : State) (H : Heap) : Prop := va_Z "MainframeCore" "OLD" "[I" (.ref aO) A U H ∧ va_T .int aO 3 (fun j => .int (oldT j)) A U H ∧ va_Z "MainframeCore" "NEW" "[I" (.ref aN) A U H ∧ va_T .int aN 3 (fun j => .int (newT j)) A U H
theorem ZT.pass {aO aN : Nat} {A B : Nat → Prop} {s U : State} {H : Heap} {locs : List Loc} (h : ZT aO aN A s s.heap) (hS : va_S A s.heap H locs) (hAB : ∀ q, B q → A q) (hvm : s.vm.Alike U.vm) : ZT aO aN B U H :=
  ⟨((h.1.kept hS.2.1).narrow hAB).moved hvm, ((h.2.1.kept hS.2.1).narrow hAB).moved hvm, ((h.2.2.1.kept hS.2.1).narrow hAB).moved hvm, ((h.2.2.2.kept hS.2.1).narrow hAB).moved hvm⟩
def PcZ (aO aN : Nat) (av : List Value) (sz : Nat) (D : va_G) (TY : List (ClassId × FieldType)) (W0 : va_W) : Array Value → State → Prop := va_Pc av (fun U => U.heap.size = sz ∧ va_P D vwCl W0 U.heap ∧ va_K D vwCl TY U ∧ va_D (fun _ => True) W0 ∧ NW U ∧ ZT aO aN (va_A W0 sz) U U.heap)
theorem fb_stdZ {aO aN : Nat} {av : List Value} {sz : Nat} {D : va_G} {TY : List (ClassId × FieldType)} {W0 : va_W} : FrameBlind (PcZ aO aN av sz D TY W0) := fun a U g mk q => by
  obtain ⟨q0, q1, qP, qK, qD, qN, qZ⟩ := q
  exact ⟨q0, q1, qP, va_K.moved (u := U) (U := U.calling g mk a) (Vm.Alike.refl U.vm) qK, qD, NW.same rfl qN, qZ.1.moved (u := U) (U := U.calling g mk a) (Vm.Alike.refl U.vm), qZ.2.1.moved (u := U) (U := U.calling g mk a) (Vm.Alike.refl U.vm), qZ.2.2.1.moved (u := U) (U := U.calling g mk a) (Vm.Alike.refl U.vm), qZ.2.2.2.moved (u := U) (U := U.calling g mk a) (Vm.Alike.refl U.vm)⟩
theorem preV_stdZ {aO aN : Nat} {s : State} {H : Heap} {D : va_G} {TY : List (ClassId × FieldType)} {W0 : va_W} {A : Nat → Prop} {locs : List Loc} {b ci q0 : Nat} {q : vw_C} {fs : List Value} {As : List Value} (hP : va_P D vwCl W0 H) (hK : va_K D vwCl TY s) (hD : va_D A W0) (hN : NW s) (hZ : ZT aO aN A s s.heap) (hS : va_S A s.heap H locs) (hF : ∀ q, va_A W0 H.size q → A q) (hc : vwCl[ci]? = some q) (he : W0[q0]? = some (b, .inr (ci, fs))) : PreV s H q.1 b (PcZ aO aN (.ref b :: As) H.size D TY W0) As :=
  ⟨fb_stdZ, va_recv hK hP hc he, fun U hU hW => ⟨rfl, by rw [hU], by rw [hU]; exact hP, va_K.moved hW.alike hK, hD.weaken (fun _ _ _ _ => trivial), hN.warm hW, by rw [hU]; exact hZ.pass hS hF hW.alike⟩⟩
def MetZ (aO aN : Nat) (l : Launch) (y : MethodName) (ws : List Cond) (rm : Room) (D : va_G) (TY : List (ClassId × FieldType)) (W0 : va_W) (sz : Nat) (av : List Value) (Qf : (Nat → Prop) → Array Value → State → Outcome → State → Prop) (mc ms : Nat) : Prop := Met l y ws rm (PcZ aO aN av sz D TY W0) (Qf (va_A W0 sz)) mc ms (va_A W0 sz)
theorem met_stdZ {aO aN : Nat} {l : Launch} {y : MethodName} {ws ws' : List Cond} {rm : Room} {cc : ByteArray} {maxL : Nat} {ret : Option FieldType} {D : va_G} {TY : List (ClassId × FieldType)} {W0 : va_W} {sz : Nat} {av : List Value} {Qf : (Nat → Prop) → Array Value → State → Outcome → State → Prop} {mc ms : Nat} (hy : plainName y.cls = true) (hw : ws = Cond.code y cc maxL ret :: ws') (hn : (lg_sl av).length ≤ maxL)
    (body : ∀ (p : Program) (e : Env) (s : State) (m : MethodId) (below : List Frame) (meth : Method) (c : Code) (A : Nat → Prop) (ls : Array Slot) (H : Heap), p.tables.exec = Jvm.exec → c.code = cc → meth.sig.returnType = ret → c.maxLocals = maxL → s.vm.findClass y.cls = some m.cls → (∀ w ∈ ws, w.before av.toArray s = true) → meth.locks = false → (∀ q : Nat, s.heap.size ≤ q → A q) → va_P D vwCl W0 H → va_K D vwCl TY s → va_D A W0 → va_S A s.heap H [] → NW s → ZT aO aN A s s.heap → lv_has ls maxL (lv_args 0 av) → W p l e rm s m av.toArray below meth c H [] 0 0 (MQ below (Qf A) av.toArray s mc ms A) (F0 m 0 ls [])) : MetZ aO aN l y ws rm D TY W0 sz av Qf mc ms := by
  refine Met.ofW (cc := cc) (maxL := maxL) (ret := ret) hy hw ?_
  intro p e s m args below meth c s₁ B hml hv
  obtain ⟨rfl, hsz, hP, hK, hD0, hN, hZ⟩ := hv
  subst hsz
  have hl := lv_entry av (n := maxL) hn
  rw [lg_entry_eq]
  exact body p e s m below meth c (va_A W0 s.heap.size) _ s.heap B.exec B.bytes B.returns hml (findClass_of_methodNamed B.named) (atoms_spec (ws := ws) B.pre) B.notSynchronized (fun q h => Or.inr h) hP hK (hD0.self (sz := s.heap.size)) va_S.rf hN hZ hl
theorem ne64 {x : Int32} (h : ¬ x = 0) : ¬ x.toInt64 = 0 := fun h2 => h (Int32.toInt_inj.mp (by
  have h3 := congrArg Int64.toInt h2
  rw [Int32.toInt_toInt64] at h3
  exact h3))
theorem met_stdF {l : Launch} {y : MethodName} {ws ws' : List Cond} {rm : Room} {cc : ByteArray} {maxL : Nat} {ret : Option FieldType} {D : va_G} {TY : List (ClassId × FieldType)} {W0 : va_W} {sz : Nat} {av : List Value} {Qf : (Nat → Prop) → Array Value → State → Outcome → State → Prop} {mc ms : Nat} (hy : plainFor y = true) (hw : ws = Cond.code y cc maxL ret :: ws') (hn : (lg_sl av).length ≤ maxL)
    (body : ∀ (p : Program) (e : Env) (s : State) (m : MethodId) (below : List Frame) (meth : Method) (c : Code) (A : Nat → Prop) (ls : Array Slot) (H : Heap), p.tables.exec = Jvm.exec → c.code = cc → meth.sig.returnType = ret → c.maxLocals = maxL → s.vm.findClass y.cls = some m.cls → (∀ w ∈ ws, w.before av.toArray s = true) → meth.locks = false → (∀ q : Nat, s.heap.size ≤ q → A q) → va_P D vwCl W0 H → va_K D vwCl TY s → va_D A W0 → va_S A s.heap H [] → NW s → lv_has ls maxL (lv_args 0 av) → W p l e rm s m av.toArray below meth c H [] 0 0 (MQ below (Qf A) av.toArray s mc ms A) (F0 m 0 ls [])) : MetW l y ws rm D TY W0 sz av Qf mc ms := by
  refine va_MetF (cc := cc) (maxL := maxL) (ret := ret) hy hw ?_
  intro p e s m args below meth c s₁ B hml hv
  obtain ⟨rfl, hsz, hP, hK, hD0, hN⟩ := hv
  subst hsz
  have hl := lv_entry av (n := maxL) hn
  rw [lg_entry_eq]
  exact body p e s m below meth c (va_A W0 s.heap.size) _ s.heap B.exec B.bytes B.returns hml (findClass_of_methodNamed B.named) (atoms_spec (ws := ws) B.pre) B.notSynchronized (fun q h => Or.inr h) hP hK (hD0.self (sz := s.heap.size)) va_S.rf hN hl
