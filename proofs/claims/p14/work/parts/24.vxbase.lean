/-! methods that may throw: the two statics that a new Throwable reads; a start, an end -/
def TW (A : Nat → Prop) (U : State) (H : Heap) : Prop := vx_Zq Bundle.tN "UNASSIGNED_STACK" Bundle.steD A U H ∧ vx_Zq Bundle.tN "SUPPRESSED_SENTINEL" Bundle.listD A U H
theorem TW.pass {A B : Nat → Prop} {s U : State} {H : Heap} {locs : List Loc} (h : TW A s s.heap) (hS : va_S A s.heap H locs) (hAB : ∀ q, B q → A q) (hvm : s.vm.Alike U.vm) : TW B U H :=
  ⟨((h.1.kept hS.2.1).narrow hAB).moved hvm, ((h.2.kept hS.2.1).narrow hAB).moved hvm⟩
def vxD : List MethodName := [⟨"java/lang/RuntimeException", "<init>", "()V"⟩, ⟨"java/lang/Exception", "<init>", "()V"⟩, ⟨"java/lang/Throwable", "<init>", "()V"⟩]
def vxC : List String := ["java/lang/IllegalArgumentException", "java/lang/IndexOutOfBoundsException"]
def TN (U : State) : Prop := (∀ q ∈ vxD, va_Nw (.declares q) U) ∧ ∀ q ∈ vxC, va_Nw (.castable q q) U
theorem TN.warm {s U : State} (h : TN s) (hW : s.WarmedH U.vm) : TN U := ⟨fun q hq => va_Nw.warmD hW (h.1 q hq), fun q hq => va_Nw.warmC hW (h.2 q hq)⟩
theorem TN.same {u U : State} (e : u.vm = U.vm) (h : TN u) : TN U := ⟨fun q hq => va_Nw.same rfl e (h.1 q hq), fun q hq => va_Nw.same rfl e (h.2 q hq)⟩
def PcX (aO aN : Nat) (av : List Value) (sz : Nat) (D : va_G) (TY : List (ClassId × FieldType)) (W0 : va_W) : Array Value → State → Prop := va_Pc av (fun U => U.heap.size = sz ∧ va_P D vwCl W0 U.heap ∧ va_K D vwCl TY U ∧ va_D (fun _ => True) W0 ∧ NW U ∧ ZT aO aN (va_A W0 sz) U U.heap ∧ TW (va_A W0 sz) U U.heap ∧ TN U)
theorem fb_stdX {aO aN : Nat} {av : List Value} {sz : Nat} {D : va_G} {TY : List (ClassId × FieldType)} {W0 : va_W} : FrameBlind (PcX aO aN av sz D TY W0) := fun a U g mk q => by
  obtain ⟨q0, q1, qP, qK, qD, qN, qZ, qT, qU⟩ := q
  exact ⟨q0, q1, qP, va_K.moved (u := U) (U := U.calling g mk a) (Vm.Alike.refl U.vm) qK, qD, NW.same rfl qN, ⟨qZ.1.moved (u := U) (U := U.calling g mk a) (Vm.Alike.refl U.vm), qZ.2.1.moved (u := U) (U := U.calling g mk a) (Vm.Alike.refl U.vm), qZ.2.2.1.moved (u := U) (U := U.calling g mk a) (Vm.Alike.refl U.vm), qZ.2.2.2.moved (u := U) (U := U.calling g mk a) (Vm.Alike.refl U.vm)⟩, ⟨qT.1.moved (u := U) (U := U.calling g mk a) (Vm.Alike.refl U.vm), qT.2.moved (u := U) (U := U.calling g mk a) (Vm.Alike.refl U.vm)⟩, TN.same rfl qU⟩
theorem preV_stdX {aO aN : Nat} {s : State} {H : Heap} {D : va_G} {TY : List (ClassId × FieldType)} {W0 : va_W} {A : Nat → Prop} {locs : List Loc} {b ci q0 : Nat} {q : vw_C} {fs : List Value} {As : List Value} (hP : va_P D vwCl W0 H) (hK : va_K D vwCl TY s) (hD : va_D A W0) (hN : NW s) (hZ : ZT aO aN A s s.heap) (hT : TW A s s.heap) (hU9 : TN s) (hS : va_S A s.heap H locs) (hF : ∀ q, va_A W0 H.size q → A q) (hc : vwCl[ci]? = some q) (he : W0[q0]? = some (b, .inr (ci, fs))) : PreV s H q.1 b (PcX aO aN (.ref b :: As) H.size D TY W0) As :=
  ⟨fb_stdX, va_recv hK hP hc he, fun U hU hW => ⟨rfl, by rw [hU], by rw [hU]; exact hP, va_K.moved hW.alike hK, hD.weaken (fun _ _ _ _ => trivial), hN.warm hW, by rw [hU]; exact hZ.pass hS hF hW.alike, by rw [hU]; exact hT.pass hS hF hW.alike, hU9.warm hW⟩⟩
def MetX (aO aN : Nat) (l : Launch) (y : MethodName) (ws : List Cond) (rm : Room) (D : va_G) (TY : List (ClassId × FieldType)) (W0 : va_W) (sz : Nat) (av : List Value) (Qf : (Nat → Prop) → Array Value → State → Outcome → State → Prop) (XC : (Nat → Prop) → String → State → State → Prop) : Prop := vx_Met l y ws rm (PcX aO aN av sz D TY W0) (Qf (va_A W0 sz)) (XC (va_A W0 sz)) 1 6 (va_A W0 sz)
theorem met_stdX {aO aN : Nat} {l : Launch} {y : MethodName} {ws ws' : List Cond} {rm : Room} {cc : ByteArray} {maxL : Nat} {ret : Option FieldType} {D : va_G} {TY : List (ClassId × FieldType)} {W0 : va_W} {sz : Nat} {av : List Value} {Qf : (Nat → Prop) → Array Value → State → Outcome → State → Prop} {XC : (Nat → Prop) → String → State → State → Prop} (hy : plainName y.cls = true) (hw : ws = Cond.code y cc maxL ret :: ws') (hn : (lg_sl av).length ≤ maxL)
    (body : ∀ (p : Program) (e : Env) (s : State) (m : MethodId) (below : List Frame) (meth : Method) (c : Code) (A : Nat → Prop) (ls : Array Slot) (H : Heap), p.tables.exec = Jvm.exec → c.code = cc → meth.sig.returnType = ret → c.maxLocals = maxL → s.vm.findClass y.cls = some m.cls → (∀ w ∈ ws, w.before av.toArray s = true) → meth.locks = false → (∀ q : Nat, s.heap.size ≤ q → A q) → va_P D vwCl W0 H → va_K D vwCl TY s → va_D A W0 → va_S A s.heap H [] → NW s → ZT aO aN A s s.heap → TW A s s.heap → TN s → (∀ x ∈ c.exceptionTable.toList, False) → lv_has ls maxL (lv_args 0 av) → W p l e rm s m av.toArray below meth c H [] 0 0 (vx_MQ below (Qf A) (XC A) av.toArray s 1 6 A) (F0 m 0 ls [])) : MetX aO aN l y ws rm D TY W0 sz av Qf XC := by
  refine vx_ofW (cc := cc) (maxL := maxL) (ret := ret) hy hw ?_
  intro p e s m args below meth c s₁ B hml hout hv
  obtain ⟨rfl, hsz, hP, hK, hD0, hN, hZ, hTW, hTN⟩ := hv
  subst hsz
  have hl := lv_entry av (n := maxL) hn
  rw [lg_entry_eq]
  exact body p e s m below meth c (va_A W0 s.heap.size) _ s.heap B.exec B.bytes B.returns hml (findClass_of_methodNamed B.named) (atoms_spec (ws := ws) B.pre) B.notSynchronized (fun q h => Or.inr h) hP hK (hD0.self (sz := s.heap.size)) va_S.rf hN hZ hTW hTN hout hl
theorem vin_le {x B : Int32} {N : Nat} (hB : B.toInt + 1 = N) (h1 : ¬ x < 0) (h2 : x ≤ B) : vp_in x N := by
  rw [vp_in_iff]
  have h3 : (0 : Int32).toInt ≤ x.toInt := Int32.le_iff_toInt_le.mp (Int32.not_lt.mp h1)
  have h5 : (0 : Int32).toInt = 0 := by decide
  have h4 := Int32.le_iff_toInt_le.mp h2
  omega
theorem vxw0_b : vxw0.filter (fun w => !goodWord w) = [.declares ⟨"java/lang/RuntimeException", "<init>", "()V"⟩, .declares ⟨"java/lang/Exception", "<init>", "()V"⟩, .declares ⟨"java/lang/Throwable", "<init>", "()V"⟩, .castable "java/lang/IllegalArgumentException" "java/lang/IllegalArgumentException"] := by decide +kernel
theorem vxh0 {args : Array Value} {s : State} (h : TN s) : ∀ w ∈ vxw0.filter (fun w => !goodWord w), w.before args s = true := by
  rw [vxw0_b]
  exact vx_c (va_Nw.use rfl (h.1 _ (by decide))) (vx_c (va_Nw.use rfl (h.1 _ (by decide))) (vx_c (va_Nw.use rfl (h.1 _ (by decide))) (vx_c (va_Nw.use rfl (h.2 _ (by decide))) vx_n)))
theorem vxg0 : ∀ w ∈ Cond.classLink RX11 102 "java/lang/IllegalArgumentException" :: Cond.initialized "java/lang/IllegalArgumentException" :: vxw0, vx_ot w = true := by decide +kernel
theorem vxw1_b : vxw1.filter (fun w => !goodWord w) = [.declares ⟨"java/lang/RuntimeException", "<init>", "()V"⟩, .declares ⟨"java/lang/Exception", "<init>", "()V"⟩, .declares ⟨"java/lang/Throwable", "<init>", "()V"⟩, .castable "java/lang/IndexOutOfBoundsException" "java/lang/IndexOutOfBoundsException"] := by decide +kernel
theorem vxh1 {args : Array Value} {s : State} (h : TN s) : ∀ w ∈ vxw1.filter (fun w => !goodWord w), w.before args s = true := by
  rw [vxw1_b]
  exact vx_c (va_Nw.use rfl (h.1 _ (by decide))) (vx_c (va_Nw.use rfl (h.1 _ (by decide))) (vx_c (va_Nw.use rfl (h.1 _ (by decide))) (vx_c (va_Nw.use rfl (h.2 _ (by decide))) vx_n)))
theorem vxg1 : ∀ w ∈ Cond.classLink RX11 73 "java/lang/IndexOutOfBoundsException" :: Cond.initialized "java/lang/IndexOutOfBoundsException" :: vxw1, vx_ot w = true := by decide +kernel
