/-! BODIES: a contract out of a walk; the ends of a walk; calls on vehicles. -/
section CtEnds
variable {p : Program} {l : Launch} {e : Env} {R : Room} {s : State} {m : MethodId} {args : Array Value} {below : List Frame} {meth : Method} {c : Code} {H : Heap} {locs : List Loc} {cells slots : Nat}
variable {cc b : ByteArray} {nL mL index pc : Nat} {ls : Array Slot} {st0 rest As : List Value} {own ref CN : String} {x y : MethodName} {hd : Cond} {ret : Option FieldType} {rm : Room} {A : Nat → Prop} {Pre Post : State → Prop} {oc : Option Value ⊕ String}
/-- what a body owes at its end -/
abbrev CtQ (below : List Frame) (s : State) (args : Array Value) (rm : Room) (A : Nat → Prop) (oc : Option Value ⊕ String) (Post : State → Prop) : State → Prop :=
  vx_MQ below (fun _ st o t => (∃ v, oc = .inl v ∧ o = .returned v) ∧ Post t ∧ va_F A st t) (fun E st t => oc = .inr E ∧ Post t ∧ va_F A st t) args s rm.cells rm.slots A
theorem ct_mk {av : List Value} (hy : plainName y.cls = true) (hsl : (lg_sl av).length ≤ mL)
    (body : ∀ (p : Program) (e : Env) (s : State) (m : MethodId) (below : List Frame) (meth : Method) (c : Code) (ls : Array Slot), CallFix p m c cc mL s av.toArray wB y.cls → meth.sig.returnType = ret → meth.locks = false → meth.name = y.name → (∀ x ∈ c.exceptionTable.toList, False) → Pre s → lv_has ls mL (lv_args 0 av) →
      W p l e rm s m av.toArray below meth c s.heap [] 0 0 (CtQ below s av.toArray rm A oc Post) (F0 m 0 ls [])) : Ct l y (.code y cc mL ret) rm A av Pre oc Post := by
  refine vx_ofW (cc := cc) (maxL := mL) (ret := ret) hy rfl ?_
  intro p e s m args below meth c s₁ B hml ht hv
  obtain ⟨rfl, hv⟩ := hv
  have hl := lv_entry av (n := mL) hsl
  rw [lg_entry_eq]
  have hts := atoms_spec (ws := Cond.code y cc mL ret :: wB) B.pre
  exact body p e s m below meth c _ ⟨B.exec, B.bytes, hml, findClass_of_methodNamed B.named, fun w h => hts w (List.mem_cons_of_mem _ h)⟩ B.returns B.notSynchronized (name_of_methodNamed B.named B.method).1 ht hv hl
theorem ct_i {v : Int32} (C : CallFix p m c cc nL s args wB own) (hr : meth.sig.returnType = some .int) (hlocks : meth.locks = false) (hoc : oc = .inl (some (.int v))) (hp : ∀ t : State, t.heap = H → s.WarmedH t.vm → Post t) (hS : va_S A s.heap H locs) (hc : cells ≤ rm.cells) (hs : slots ≤ rm.slots) (hdg : decode cc pc = .ok (.ireturn, 1)) :
    W p l e R s m args below meth c H locs cells slots (CtQ below s args rm A oc Post) (F0 m pc ls [.int v]) :=
  W.widen hc hs (vx_ret (W.iret C.1 C.2.1 hr (fun t ht hW => ⟨⟨_, hoc, rfl⟩, hp t ht hW, hS.F ht⟩) hS.2.2 hdg hlocks))
theorem ct_z {v : Int32} (C : CallFix p m c cc nL s args wB own) (hr : meth.sig.returnType = some .boolean) (hlocks : meth.locks = false) (hv : v = 0 ∨ v = 1) (hoc : oc = .inl (some (.int v))) (hp : ∀ t : State, t.heap = H → s.WarmedH t.vm → Post t) (hS : va_S A s.heap H locs) (hc : cells ≤ rm.cells) (hs : slots ≤ rm.slots) (hdg : decode cc pc = .ok (.ireturn, 1)) :
    W p l e R s m args below meth c H locs cells slots (CtQ below s args rm A oc Post) (F0 m pc ls [.int v]) :=
  W.widen hc hs (vx_ret (W.zret C.1 C.2.1 hr (by rcases hv with rfl | rfl <;> rfl) (fun t ht hW => ⟨⟨_, hoc, rfl⟩, hp t ht hW, hS.F ht⟩) hS.2.2 hdg hlocks))
theorem ct_v (C : CallFix p m c cc nL s args wB own) (hr : meth.sig.returnType = none) (hlocks : meth.locks = false) (hoc : oc = .inl none) (hp : ∀ t : State, t.heap = H → s.WarmedH t.vm → Post t) (hS : va_S A s.heap H locs) (hc : cells ≤ rm.cells) (hs : slots ≤ rm.slots) (hdg : decode cc pc = .ok (.return_, 1)) :
    W p l e R s m args below meth c H locs cells slots (CtQ below s args rm A oc Post) (F0 m pc ls []) :=
  W.widen hc hs (vx_ret (W.vret C.1 C.2.1 hr (fun t ht hW => ⟨⟨_, hoc, rfl⟩, hp t ht hW, hS.F ht⟩) hS.2.2 hdg hlocks))
theorem ct_a {r : Option Nat} {rt : FieldType} (C : CallFix p m c cc nL s args wB own) (hr : meth.sig.returnType = some rt) (hrt : (∃ n, rt = .object n) ∨ ∃ t, rt = .array t) (hlocks : meth.locks = false) (hoc : oc = .inl (some (va_rf r))) (hp : ∀ t : State, t.heap = H → s.WarmedH t.vm → Post t) (hS : va_S A s.heap H locs) (hc : cells ≤ rm.cells) (hs : slots ≤ rm.slots) (hdg : decode cc pc = .ok (.areturn, 1)) :
    W p l e R s m args below meth c H locs cells slots (CtQ below s args rm A oc Post) (F0 m pc ls [va_rf r]) :=
  W.widen hc hs (vx_ret (W.aret C.1 C.2.1 hr hrt (va_rf_or r) (fun t ht hW => ⟨⟨_, hoc, rfl⟩, hp t ht hW, hS.F ht⟩) hS.2.2 hdg hlocks))
end CtEnds
section XCalls
variable {p : Program} {l : Launch} {e : Env} {R : Room} {s : State} {m : MethodId} {args : Array Value} {below : List Frame} {meth : Method} {c : Code} {H : Heap} {locs : List Loc} {cells slots : Nat}
variable {cc b : ByteArray} {nL mL index pc : Nat} {ls : Array Slot} {st0 rest As : List Value} {own ref CN : String} {x y : MethodName} {hd : Cond} {ret : Option FieldType} {rm : Room} {Pre Post : State → Prop} {oc : Option Value ⊕ String}
variable {D : va_G} {A : Nat → Prop} {P : SwP} {F : Nat → Nat → Int32} {B G : Nat → Int32} {n : Int32} {fd : Nat → Option Nat} {i : Nat}
/-- the object's world, as a start or an end of a contract -/
abbrev Xp (D : va_G) (A : Nat → Prop) (P : SwP) (F : Nat → Nat → Int32) (B G : Nat → Int32) (dk : List Nat) : State → Prop := fun U => XwR D A P F B G (nI dk.length) (dfd P dk) U U.heap
theorem Xp_bl {dk : List Nat} : Bl (Xp D A P F B G dk) := fun U g mk a h => h.moved (u := U.calling g mk a) (Vm.Alike.refl U.vm)
theorem x_post {t : State} (hw : XwR D A P F B G n fd s H) (ht : t.heap = H) (hW : s.WarmedH t.vm) : XwR D A P F B G n fd t t.heap := by rw [ht]; exact hw.moved hW.alike
theorem x_back {t : State} (hw : XwR D A P F B G n fd t t.heap) (ht : t.heap = H) (hvm : s.vm.Alike t.vm) : XwR D A P F B G n fd s H := by rw [ht] at hw; exact hw.moved hvm.symm
theorem x_recv (hw : XwR D A P F B G n fd s H) (hi : i < pn P) (hk : pk P i < 9) : ∃ cellB : Cell, H[pa P i]? = some cellB ∧ cellB.vm.isStatics = false ∧ s.vm.findClass (cN (pk P i)) = some cellB.cls := va_recv hw.1 hw.2.1 (sCl_k hk) (xws_v hi)
/-- the classes are at least four: chains of superclasses have fuel -/
theorem sw_cls (hw : XwR D A P F B G n fd s H) (k : Nat) (q : vw_C) (hq : sCl[k]? = some q) : ∃ c k9, s.vm.findClass q.1 = some c ∧ s.vm.classes[c]? = some k9 ∧ k9.name = q.1 := by
  obtain ⟨-, hc, -⟩ := hw.1.1 k q hq
  obtain ⟨k9, h1, h2⟩ := Vm.findClass_spec hc
  exact ⟨_, k9, hc, h1, h2⟩
theorem sw_size (hw : XwR D A P F B G n fd s H) : 4 ≤ s.vm.classes.size := by
  obtain ⟨a, ka, -, ha, na⟩ := sw_cls hw 0 _ rfl
  obtain ⟨b, kb, -, hb, nb⟩ := sw_cls hw 1 _ rfl
  obtain ⟨c, kc, -, hc, nc⟩ := sw_cls hw 2 _ rfl
  obtain ⟨d, kd, -, hd, nd⟩ := sw_cls hw 3 _ rfl
  have h1 := (Array.getElem?_eq_some_iff.mp ha).1
  have h2 := (Array.getElem?_eq_some_iff.mp hb).1
  have h3 := (Array.getElem?_eq_some_iff.mp hc).1
  have h4 := (Array.getElem?_eq_some_iff.mp hd).1
  have ne : ∀ {u v : Nat} {ku kv : Class} {su sv : String}, s.vm.classes[u]? = some ku → s.vm.classes[v]? = some kv → ku.name = su → kv.name = sv → su ≠ sv → u ≠ v := by
    intro u v ku kv su sv hu hv nu nv hn he
    subst he
    cases hu.symm.trans hv
    exact hn (nu.symm.trans nv)
  have e1 := ne ha hb na nb (by decide)
  have e2 := ne ha hc na nc (by decide)
  have e3 := ne ha hd na nd (by decide)
  have e4 := ne hb hc nb nc (by decide)
  have e5 := ne hb hd nb nd (by decide)
  have e6 := ne hc hd nc nd (by decide)
  omega
theorem sub_st {vm : Vm} {f a b t : Nat} {k : Class} (hk : vm.classes[a]? = some k) (hs : k.super = some b) (h : vm.isSubclassAux f b t = true) : vm.isSubclassAux (f + 1) a t = true := by
  simp [Vm.isSubclassAux, hk, hs, h]
theorem sub_se {vm : Vm} {f a : Nat} : vm.isSubclassAux (f + 1) a a = true := by simp [Vm.isSubclassAux]
/-- up from S0: none, one, two or three steps -/
theorem sup0 {S0 : String} : ∀ ps yc : ClassId, s.vm.findClass S0 = some ps → s.vm.findClass S0 = some yc → s.vm.isSubclass ps yc = true := fun ps yc h1 h2 => by
  cases h1.symm.trans h2
  simp [Vm.isSubclass, Vm.isSubclassAux]
theorem sup1 {S0 S1 : String} (C : CallFix p m c cc nL s args wB own) (h : Cond.superclass S0 S1 ∈ wB) : ∀ ps yc : ClassId, s.vm.findClass S0 = some ps → s.vm.findClass S1 = some yc → s.vm.isSubclass ps yc = true := fun ps yc h1 h2 => by
  obtain ⟨q1, k1, -, hq1, hk1, hk1', hs1, -⟩ := Cond.superclass_spec h1 (C.2.2.2.2 _ h)
  cases h2.symm.trans hq1
  have hz := (Array.getElem?_eq_some_iff.mp hk1).1
  show s.vm.isSubclassAux (s.vm.classes.size + 1) ps yc = true
  obtain ⟨f, hf⟩ : ∃ f, s.vm.classes.size + 1 = f + 1 + 1 := ⟨s.vm.classes.size - 1, by omega⟩
  rw [hf]
  exact sub_st hk1 hs1 sub_se
theorem sup2 {S0 S1 S2 : String} (C : CallFix p m c cc nL s args wB own) (hw : XwR D A P F B G n fd s H) (h : Cond.superclass S0 S1 ∈ wB) (h' : Cond.superclass S1 S2 ∈ wB) : ∀ ps yc : ClassId, s.vm.findClass S0 = some ps → s.vm.findClass S2 = some yc → s.vm.isSubclass ps yc = true := fun ps yc h1 h2 => by
  obtain ⟨q1, k1, -, hq1, hk1, hk1', hs1, -⟩ := Cond.superclass_spec h1 (C.2.2.2.2 _ h)
  obtain ⟨q2, k2, -, hq2, hk2, hk2', hs2, -⟩ := Cond.superclass_spec hq1 (C.2.2.2.2 _ h')
  cases h2.symm.trans hq2
  have hz := sw_size hw
  show s.vm.isSubclassAux (s.vm.classes.size + 1) ps yc = true
  obtain ⟨f, hf⟩ : ∃ f, s.vm.classes.size + 1 = f + 1 + 1 + 1 := ⟨s.vm.classes.size - 2, by omega⟩
  rw [hf]
  exact sub_st hk1 hs1 (sub_st hk2 hs2 sub_se)
theorem sup3 {S0 S1 S2 S3 : String} (C : CallFix p m c cc nL s args wB own) (hw : XwR D A P F B G n fd s H) (h : Cond.superclass S0 S1 ∈ wB) (h' : Cond.superclass S1 S2 ∈ wB) (h'' : Cond.superclass S2 S3 ∈ wB) : ∀ ps yc : ClassId, s.vm.findClass S0 = some ps → s.vm.findClass S3 = some yc → s.vm.isSubclass ps yc = true := fun ps yc h1 h2 => by
  obtain ⟨q1, k1, -, hq1, hk1, hk1', hs1, -⟩ := Cond.superclass_spec h1 (C.2.2.2.2 _ h)
  obtain ⟨q2, k2, -, hq2, hk2, hk2', hs2, -⟩ := Cond.superclass_spec hq1 (C.2.2.2.2 _ h')
  obtain ⟨q3, k3, -, hq3, hk3, hk3', hs3, -⟩ := Cond.superclass_spec hq2 (C.2.2.2.2 _ h'')
  cases h2.symm.trans hq3
  have hz := sw_size hw
  show s.vm.isSubclassAux (s.vm.classes.size + 1) ps yc = true
  obtain ⟨f, hf⟩ : ∃ f, s.vm.classes.size + 1 = f + 1 + 1 + 1 + 1 := ⟨s.vm.classes.size - 3, by omega⟩
  rw [hf]
  exact sub_st hk1 hs1 (sub_st hk2 hs2 (sub_st hk3 hs3 sub_se))
theorem sig_code {s : State} {args : Array Value} {y : MethodName} {b : ByteArray} {mL : Nat} {ret : Option FieldType} (h : (Cond.code y b mL ret).before args s = true) : ∀ mk methM, s.methodNamed? y = some mk → s.vm.method? mk = some methM → parseMethodDescriptor y.desc = some methM.sig := fun mk methM h1 h2 => by
  obtain ⟨methM', cM, hmethM', -, -, -, -, -, -, hsigM⟩ := Cond.code_spec h1 h
  cases h2.symm.trans hmethM'
  exact hsigM
/-- super.m(..) on a vehicle; y is x itself or what x's class has from above -/
theorem x_SU (C : CallFix p m c cc nL s args wB own) (hw : XwR D A P F B G n fd s H) (hi : i < pn P) (hk : pk P i < 9) (hM : Ct l y (.code y b mL ret) rm A (.ref (pa P i) :: As) Pre oc Post) (hbl : Bl Pre) (hpre : ∀ U : State, U.heap = H → s.WarmedH U.vm → Pre U)
    (hG : Cond.code y b mL ret ∈ wB) (hini : Cond.initialized y.cls ∈ wB) (h5 : Cond.instanceMethod y ∈ wB) (h1 : Cond.methodLink own index x ∈ wB) (h2 : Cond.sameMethod x.cls y.cls x.name x.desc ∈ wB) (hxy : x.name = y.name ∧ x.desc = y.desc) (h3 : Cond.superclass own x.cls ∈ wB) (hno : x.name ≠ "<init>")
    (hup : ∀ ps yc : ClassId, s.vm.findClass x.cls = some ps → s.vm.findClass y.cls = some yc → s.vm.isSubclass ps yc = true) (hlen : (parseMethodDescriptor y.desc).map (fun d => d.parameters.length) = some As.length) (hsize : ls.size = nL) (hdg : decode cc pc = .ok (.invokespecial index, 3))
    (hR : rm.frames + 1 ≤ R.frames ∧ 8 + (mL + 11) + rm.locals ≤ R.locals) (hst : st0 = As.reverse ++ .ref (pa P i) :: rest) (hW : (rest.map fun v => v.category).sum ≤ 8) (hf : cells + rm.cells ≤ R.cells ∧ slots + rm.slots ≤ R.slots) :
    CtR p l e R s m args below meth c H locs cells slots (F0 m pc ls st0) rest rm A oc Post :=
  ct_SU C hM hbl (Or.inl rfl) hG hini hR h1 h2 hxy h3 hup h5 hno (x_recv hw hi hk) hpre hlen hsize hst hW hdg hf (sig_code (C.2.2.2.2 _ hG))
end XCalls
