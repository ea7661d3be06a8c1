/-! CONTRACTS. One form: from every state with Pre, y with the arguments av ends just so: oc = .inl v: it returns v; oc = .inr E: it throws an object of E; Post holds behind it; only cells of A are written; rm.cells new cells of rm.slots slots at most. -/
def Ct (l : Launch) (y : MethodName) (hd : Cond) (rm : Room) (A : Nat → Prop) (av : List Value) (Pre : State → Prop) (oc : Option Value ⊕ String) (Post : State → Prop) : Prop :=
  vx_Met l y (hd :: wB) rm (va_Pc av Pre) (fun _ st o t => (∃ v, oc = .inl v ∧ o = .returned v) ∧ Post t ∧ va_F A st t) (fun E st t => oc = .inr E ∧ Post t ∧ va_F A st t) rm.cells rm.slots A
/-- a start that doesn't look at the frames -/
def Bl (Pre : State → Prop) : Prop := ∀ (U : State) (g : JFrame) (mk : MethodId) (a : Array Value), Pre U → Pre (U.calling g mk a)
theorem Bl.pc {av : List Value} {Pre : State → Prop} (h : Bl Pre) : FrameBlind (va_Pc av Pre) := fun a U g mk q => ⟨q.1, h U g mk a q.2⟩
/-- the word that a callee's code has: plain, or with a table of handlers -/
def Hd (y : MethodName) (b : ByteArray) (mL : Nat) (ret : Option FieldType) (hd : Cond) : Prop := hd = .code y b mL ret ∨ ∃ hh, hd = .codeWith y b mL ret hh
theorem good_wB {L : List Cond} (h : ∀ w ∈ L, w ∈ wB) : GoodIn wB L := fun w hw => ⟨h w hw, good_of_word (wB_good w (h w hw))⟩
section CtCalls
variable {p : Program} {l : Launch} {e : Env} {R : Room} {s : State} {m : MethodId} {args : Array Value} {below : List Frame} {meth : Method} {c : Code} {H : Heap} {locs : List Loc} {cells slots : Nat} {Q : State → Prop}
variable {cc b : ByteArray} {nL mL index pc : Nat} {ls : Array Slot} {st0 rest As : List Value} {own owner CN : String} {x y : MethodName} {hd : Cond} {ret : Option FieldType} {rm : Room} {A A0 : Nat → Prop} {H0 : Heap} {Pre Post : State → Prop} {oc : Option Value ⊕ String} {a : Nat}
def CtR (p : Program) (l : Launch) (e : Env) (R : Room) (s : State) (m : MethodId) (args : Array Value) (below : List Frame) (meth : Method) (c : Code) (H : Heap) (locs : List Loc) (cells slots : Nat) (g : JFrame) (rest : List Value) (rm : Room) (A : Nat → Prop) (oc : Option Value ⊕ String) (Post : State → Prop) : Prop :=
  vx_Run p l e R s m args below meth c H locs cells slots rm.cells rm.slots g rest (fun st o t => (∃ v, oc = .inl v ∧ o = .returned v) ∧ Post t ∧ va_F A st t) (fun E st t => oc = .inr E ∧ Post t ∧ va_F A st t) A
/-- behind a call -/
theorem ct_go (hr : CtR p l e R s m args below meth c H locs cells slots (F0 m pc ls st0) rest rm A oc Post) (hS : va_S A0 H0 H locs) (hA : ∀ q, A q → A0 q)
    (kx : ∀ (E : String), oc = .inr E → ∀ (ce : Cell) (q9 : Addr) (t : State) (H1 : Heap) (locs1 : List Loc), t.heap = H1 → s.vm.Alike t.vm → Post t → H.size ≤ H1.size → (∀ q : Nat, q < H.size → ¬ A q → H1[q]? = H[q]?) → va_S A0 H0 H1 locs1 → H1[q9]? = some ce → ce.vm = .none → s.vm.findClass E = some ce.cls → vx_W p l e R s m args below meth c H1 locs1 (cells + rm.cells) (slots + rm.slots) Q (F0 m pc ls rest) q9)
    (kk : ∀ (v : Option Value), oc = .inl v → ∀ (t : State) (H1 : Heap) (locs1 : List Loc), t.heap = H1 → s.vm.Alike t.vm → Post t → H.size ≤ H1.size → (∀ q : Nat, q < H.size → ¬ A q → H1[q]? = H[q]?) → va_S A0 H0 H1 locs1 → W p l e R s m args below meth c H1 locs1 (cells + rm.cells) (slots + rm.slots) Q (F0 m (pc + 3) ls (v.toList ++ rest))) : W p l e R s m args below meth c H locs cells slots Q (F0 m pc ls st0) := by
  intro T hT X
  rcases hr T hT X with ⟨v, st₀, t, T', L, h0, X', hL, e1, e2, ⟨⟨v', hv, hv'⟩, hp, hF⟩, st⟩ | ⟨q, st₀, t, T', L, E, ce, h0, X', hL, e1, e2, ⟨hE, hp, hF⟩, hce, hcv, hcl, st⟩
  · cases hv'
    obtain ⟨k1, k2, k3⟩ := vx_keep h0 e1 hS (fun q _ h => hA q h) hA hL hF
    obtain ⟨t2, a1, b1⟩ := kk _ hv t T'.heap (locs ++ L) e1.symm (by rw [← e2]; exact X'.warmed.alike) hp k1 k2 k3 T' rfl X'
    exact ⟨t2, st t2 a1, b1⟩
  · obtain ⟨k1, k2, k3⟩ := vx_keep h0 e1 hS (fun q _ h => hA q h) hA hL hF
    obtain ⟨t2, a1, b1⟩ := kx E hE ce q t T'.heap (locs ++ L) e1.symm (by rw [← e2]; exact X'.warmed.alike) hp k1 k2 k3 (by rw [e1]; exact hce) hcv hcl T' rfl X'
    exact ⟨t2, st.trans a1, b1⟩
/-- behind a call that returns -/
theorem ct_ret {v : Option Value} (hr : CtR p l e R s m args below meth c H locs cells slots (F0 m pc ls st0) rest rm A (.inl v) Post) (hS : va_S A0 H0 H locs) (hA : ∀ q, A q → A0 q)
    (kk : ∀ (t : State) (H1 : Heap) (locs1 : List Loc), t.heap = H1 → s.vm.Alike t.vm → Post t → H.size ≤ H1.size → (∀ q : Nat, q < H.size → ¬ A q → H1[q]? = H[q]?) → va_S A0 H0 H1 locs1 → W p l e R s m args below meth c H1 locs1 (cells + rm.cells) (slots + rm.slots) Q (F0 m (pc + 3) ls (v.toList ++ rest))) : W p l e R s m args below meth c H locs cells slots Q (F0 m pc ls st0) :=
  ct_go hr hS hA (fun E h => nomatch h) (fun v' h => by cases h; exact kk)
theorem ct_back {av : List Value} (hM : Ct l y hd rm A av Pre oc Post) (hbl : Bl Pre) (hhd : Hd y b mL ret hd) (hG : hd ∈ wB) (hini : Cond.initialized y.cls ∈ wB) (hts : ∀ w ∈ wB, w.before args s = true) (hR : rm.frames + 1 ≤ R.frames ∧ 8 + (mL + 11) + rm.locals ≤ R.locals) :
    vx_Back l R p e below s args y 3 8 (PreOf R rm.cells rm.slots (va_Pc av Pre)) (PostOf (fun _ st o t => (∃ v, oc = .inl v ∧ o = .returned v) ∧ Post t ∧ va_F A st t) rm.cells rm.slots A) (vx_Post (fun E st t => oc = .inr E ∧ Post t ∧ va_F A st t) rm.cells rm.slots A) := by
  have hws : ∀ w ∈ hd :: wB, ∀ (a' : Array Value) (U : State), s.WarmedH U.vm → w.before a' U = true := pay_in hts (good_wB (List.forall_mem_cons.mpr ⟨hG, fun _ h => h⟩))
  have hin : ∀ (a' : Array Value) (U : State), s.WarmedH U.vm → (Cond.initialized y.cls).before a' U = true := fun a' U hW => word_at hW (Or.inl (by first | rfl | simp [Cond.onTables, Cond.keeps, Cond.steady])) (hts _ hini)
  rcases hhd with rfl | ⟨hh, rfl⟩
  · exact vx_back (bytes := b) (maxL := mL) (ret := ret) hM hbl.pc rfl rfl hR.1 hR.2 hws List.mem_cons_self hin
  · exact vx_backW (hh := hh) (bytes := b) (maxL := mL) (ret := ret) hM hbl.pc rfl rfl hR.1 hR.2 hws List.mem_cons_self hin
theorem ct_len {n : Nat} {d : String} (h : (parseMethodDescriptor d).map (fun d => d.parameters.length) = some n) : ∀ sig, parseMethodDescriptor d = some sig → n = sig.parameters.length := fun sig h2 => by
  rw [h2] at h
  exact (Option.some.inj h).symm
/-- x.m(..): the receiver's own class CN selects y -/
theorem ct_V (S : CallFix p m c cc nL s args wB own) (hM : Ct l y hd rm A (.ref a :: As) Pre oc Post) (hbl : Bl Pre) (hhd : Hd y b mL ret hd) (hG : hd ∈ wB) (hini : Cond.initialized y.cls ∈ wB) (hR : rm.frames + 1 ≤ R.frames ∧ 8 + (mL + 11) + rm.locals ≤ R.locals)
    (h1 : Cond.methodLink own index x ∈ wB) (h2 : Cond.sameMethod x.cls owner x.name x.desc ∈ wB) (hd0 : va_Decl s ⟨owner, x.name, x.desc⟩) (howner : owner ≠ "java/lang/invoke/MethodHandle" ∧ owner ≠ "java/lang/invoke/VarHandle") (h4 : Cond.selects CN x y ∈ wB) (h5 : Cond.instanceMethod y ∈ wB)
    (hrc : ∃ cellB : Cell, H[a]? = some cellB ∧ cellB.vm.isStatics = false ∧ s.vm.findClass CN = some cellB.cls) (hpre : ∀ U : State, U.heap = H → s.WarmedH U.vm → Pre U)
    (hlen : (parseMethodDescriptor x.desc).map (fun d => d.parameters.length) = some As.length) (hsize : ls.size = nL) (hst : st0 = As.reverse ++ .ref a :: rest) (hW : (rest.map fun v => v.category).sum ≤ 8) (hdg : decode cc pc = .ok (.invokevirtual index, 3)) (hf : cells + rm.cells ≤ R.cells ∧ slots + rm.slots ≤ R.slots) :
    CtR p l e R s m args below meth c H locs cells slots (F0 m pc ls st0) rest rm A oc Post := by
  have hK := ct_back (p := p) (e := e) (below := below) (R := R) hM hbl hhd hG hini S.2.2.2.2 hR
  obtain ⟨hx, hb, hml, ho, hts⟩ := S
  obtain ⟨cellB, hcB, hoB, hclB⟩ := hrc
  intro T hT X
  obtain ⟨r0, r, hn, hrm, hstR, hsigR⟩ := hd0
  obtain ⟨cn, ck, r1, hcn, hck, hni, hff, hn1⟩ := Cond.sameMethod_found (hts _ h2)
  cases hn.symm.trans hn1
  obtain ⟨mk, methM, hnamed, hmethM, -, habM⟩ := Cond.instanceMethod_spec (hts _ h5)
  obtain ⟨c2, r2, m2, q1, q2, q3, q4, kP, hkP, hkPi⟩ := Cond.selects_spec (hts _ h4)
  cases hclB.symm.trans q1
  cases hff.symm.trans q2
  cases hnamed.symm.trans q3
  have hselP : selectMethod e.platform s.vm cellB.cls r0 = .method mk := by rw [Launch.admits_selectMethod X.admits]; exact q4
  have hdg' : decode c.code (F0 m pc ls st0).pc = .ok (.invokevirtual index, 3) := by rw [hb]; exact hdg
  obtain ⟨vm₁, X₁, hstep₁⟩ := X.invokevirtualUp hx ho (hts _ h1) (hts _ h2) howner hn hrm hstR (a := a) (cell := cellB) (by rw [hT]; exact hcB)
    (fun z h => by rw [h] at hoB; cases hoB) hselP hmethM habM hkP hkPi (g := F0 m pc ls st0) rfl (argsL := As) (rest := rest) (ct_len hlen _ hsigR) hst hdg'
  rcases hK m meth c ⟨T.setVm vm₁, locs, cells, slots⟩ (F0 m pc ls rest) (.invokevirtual index) mk (Value.ref a :: As).toArray X₁ rfl (hsize.trans hml.symm) hdg' (by simpa [JFrame.monitorRoom] using hW) (X₁.named hnamed) ⟨hf.1, hf.2, rfl, hpre (T.setVm vm₁) hT X₁.warmed⟩ with ⟨v, ⟨U', l2, c2, s2⟩, X', ⟨g', mk', t, L, e1, e2, hq, h1, hL, h2, h3⟩, hsteps⟩ | ⟨q, ⟨U', l2, c2, s2⟩, X', ⟨g', mk', t, L, E, ce, e1, e2, hq, hce, hcv, hcl, h1, hL, h2, h3⟩, hsteps⟩
  · dsimp only [Pt.U, Pt.locs, Pt.cells, Pt.slots] at X' e1 e2 h1 h2 h3 hsteps
    subst h1; subst h2; subst h3
    exact Or.inl ⟨v, (T.setVm vm₁).calling g' mk' (Value.ref a :: As).toArray, t, U', L, hT, X', hL, e1, e2, hq, fun target h => hstep₁ _ fun acts => by rw [doInvoke_state]; exact hsteps.trans h⟩
  · dsimp only [Pt.U, Pt.locs, Pt.cells, Pt.slots] at X' e1 e2 h1 h2 h3 hsteps hcl
    subst h1; subst h2; subst h3
    exact Or.inr ⟨q, (T.setVm vm₁).calling g' mk' (Value.ref a :: As).toArray, t, U', L, E, ce, hT, X', hL, e1, e2, hq, hce, hcv, vx_cls X₁.warmed hcl, hstep₁ _ fun acts => by rw [doInvoke_state]; exact hsteps⟩
/-- super.m(..): x names the superclass, the method that it has is y -/
theorem ct_SU (S : CallFix p m c cc nL s args wB own) (hM : Ct l y hd rm A (.ref a :: As) Pre oc Post) (hbl : Bl Pre) (hhd : Hd y b mL ret hd) (hG : hd ∈ wB) (hini : Cond.initialized y.cls ∈ wB) (hR : rm.frames + 1 ≤ R.frames ∧ 8 + (mL + 11) + rm.locals ≤ R.locals)
    (h1 : Cond.methodLink own index x ∈ wB) (h2 : Cond.sameMethod x.cls y.cls x.name x.desc ∈ wB) (hxy : x.name = y.name ∧ x.desc = y.desc) (h3 : Cond.superclass own x.cls ∈ wB) (hup : ∀ ps yc : ClassId, s.vm.findClass x.cls = some ps → s.vm.findClass y.cls = some yc → s.vm.isSubclass ps yc = true) (h5 : Cond.instanceMethod y ∈ wB) (hno : x.name ≠ "<init>")
    (hrc : ∃ cellB : Cell, H[a]? = some cellB ∧ cellB.vm.isStatics = false ∧ s.vm.findClass CN = some cellB.cls) (hpre : ∀ U : State, U.heap = H → s.WarmedH U.vm → Pre U)
    (hlen : (parseMethodDescriptor y.desc).map (fun d => d.parameters.length) = some As.length) (hsize : ls.size = nL) (hst : st0 = As.reverse ++ .ref a :: rest) (hW : (rest.map fun v => v.category).sum ≤ 8) (hdg : decode cc pc = .ok (.invokespecial index, 3)) (hf : cells + rm.cells ≤ R.cells ∧ slots + rm.slots ≤ R.slots)
    (hcode : ∀ mk methM, s.methodNamed? y = some mk → s.vm.method? mk = some methM → parseMethodDescriptor y.desc = some methM.sig) :
    CtR p l e R s m args below meth c H locs cells slots (F0 m pc ls st0) rest rm A oc Post := by
  have hK := ct_back (p := p) (e := e) (below := below) (R := R) hM hbl hhd hG hini S.2.2.2.2 hR
  obtain ⟨hx, hb, hml, ho, hts⟩ := S
  obtain ⟨cellB, hcB, hoB, hclB⟩ := hrc
  intro T hT X
  obtain ⟨kB, hkB, -⟩ := Vm.findClass_spec hclB
  obtain ⟨mk, methM, hnamed, hmethM, hstM, habM⟩ := Cond.instanceMethod_spec (hts _ h5)
  obtain ⟨ps, dk, kp, hps, hdk, hkp, hsuper, -, -, hnid⟩ := Cond.superclass_spec ho (hts _ h3)
  have hn : s.methodNamed? ⟨y.cls, x.name, x.desc⟩ = some mk := by rw [hxy.1, hxy.2]; exact hnamed
  have hsub : s.vm.isSubclass ps mk.cls = true := hup ps mk.cls hps (findClass_of_methodNamed hnamed)
  have hdg' : decode c.code (F0 m pc ls st0).pc = .ok (.invokespecial index, 3) := by rw [hb]; exact hdg
  obtain ⟨vm₁, X₁, hstep₁⟩ := X.invokespecialUp hx ho (hts _ h1) (hts _ h2) hn hmethM hstM habM hno hdk hnid hps hsuper hsub (a := a) (cell := cellB) (by rw [hT]; exact hcB)
    (fun z h => by rw [h] at hoB; cases hoB) hkB (g := F0 m pc ls st0) rfl (argsL := As) (rest := rest) (ct_len hlen _ (hcode mk methM hnamed hmethM)) hst hdg'
  rcases hK m meth c ⟨T.setVm vm₁, locs, cells, slots⟩ (F0 m pc ls rest) (.invokespecial index) mk (Value.ref a :: As).toArray X₁ rfl (hsize.trans hml.symm) hdg' (by simpa [JFrame.monitorRoom] using hW) (X₁.named hnamed) ⟨hf.1, hf.2, rfl, hpre (T.setVm vm₁) hT X₁.warmed⟩ with ⟨v, ⟨U', l2, c2, s2⟩, X', ⟨g', mk', t, L, e1, e2, hq, h1, hL, h2, h3⟩, hsteps⟩ | ⟨q, ⟨U', l2, c2, s2⟩, X', ⟨g', mk', t, L, E, ce, e1, e2, hq, hce, hcv, hcl, h1, hL, h2, h3⟩, hsteps⟩
  · dsimp only [Pt.U, Pt.locs, Pt.cells, Pt.slots] at X' e1 e2 h1 h2 h3 hsteps
    subst h1; subst h2; subst h3
    exact Or.inl ⟨v, (T.setVm vm₁).calling g' mk' (Value.ref a :: As).toArray, t, U', L, hT, X', hL, e1, e2, hq, fun target h => hstep₁ _ (by rw [doInvoke_state]; exact hsteps.trans h)⟩
  · dsimp only [Pt.U, Pt.locs, Pt.cells, Pt.slots] at X' e1 e2 h1 h2 h3 hsteps hcl
    subst h1; subst h2; subst h3
    exact Or.inr ⟨q, (T.setVm vm₁).calling g' mk' (Value.ref a :: As).toArray, t, U', L, E, ce, hT, X', hL, e1, e2, hq, hce, hcv, vx_cls X₁.warmed hcl, hstep₁ _ (by rw [doInvoke_state]; exact hsteps)⟩
end CtCalls
