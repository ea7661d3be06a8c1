/-! THE DECK: what its row keeps to; loads out of it; calls on an object of a final kind. -/
/-- the state's own order: at most 24, each kind one of nine and told in field 2, the row's numbers known and apart -/
def Ok (P : SwP) (F : Nat → Nat → Int32) (dk : List Nat) : Prop := pn P ≤ 24 ∧ (∀ j, j < pn P → pk P j < 9) ∧ (∀ j, j < pn P → F j 2 = nI (pk P j)) ∧ (∀ v, v ∈ dk → v < pn P) ∧ dk.Nodup
theorem nodup_le : ∀ (n : Nat) (l : List Nat), l.Nodup → (∀ v, v ∈ l → v < n) → l.length ≤ n
  | 0, l, _, h => by
    cases l with
    | nil => exact Nat.le_refl 0
    | cons a t => exact absurd (h a List.mem_cons_self) (by omega)
  | n + 1, l, hn, h => by
    by_cases hm : n ∈ l
    · have h1 := nodup_le n (l.erase n) (hn.erase n) (fun v hv => by
        have h2 := (hn.mem_erase_iff).mp hv
        have h3 := h v h2.2
        have h4 := h2.1
        omega)
      have h2 := List.length_erase_of_mem hm
      have h3 : 0 < l.length := List.length_pos_of_mem hm
      omega
    · have h1 := nodup_le n l hn (fun v hv => by
        have h3 := h v hv
        have h4 : v ≠ n := fun q => hm (q ▸ hv)
        omega)
      omega
theorem Ok.len {P : SwP} {F : Nat → Nat → Int32} {dk : List Nat} (h : Ok P F dk) : dk.length ≤ 24 := Nat.le_trans (nodup_le _ dk h.2.2.2.2 h.2.2.2.1) h.1
theorem Ok.v {P : SwP} {F : Nat → Nat → Int32} {dk : List Nat} (h : Ok P F dk) {j v : Nat} (hj : dk[j]? = some v) : v < pn P ∧ pk P v < 9 := ⟨h.2.2.2.1 v (List.mem_of_getElem? hj), h.2.1 v (h.2.2.2.1 v (List.mem_of_getElem? hj))⟩
theorem Ok.lt {P : SwP} {F : Nat → Nat → Int32} {dk : List Nat} (h : Ok P F dk) {i : Nat} (hi : i < pn P) (hn : i ∉ dk) : dk.length < 24 := by
  have h1 := nodup_le (pn P) (i :: dk) (List.nodup_cons.mpr ⟨hn, h.2.2.2.2⟩) (fun v hv => by
    rcases List.mem_cons.mp hv with q | q
    · exact q ▸ hi
    · exact h.2.2.2.1 v q)
  have h2 := h.1
  simp only [List.length_cons] at h1
  omega
theorem take_none {dk : List Nat} {j : Nat} (h : dk[j]? = none) : dk.take (j + 1) = dk.take j := by
  have h1 := List.getElem?_eq_none_iff.mp h
  rw [List.take_of_length_le h1, List.take_of_length_le (by omega)]
theorem take_some {dk : List Nat} {j v : Nat} (h : dk[j]? = some v) : dk.take (j + 1) = dk.take j ++ [v] := by
  rw [List.take_add_one, h]
  rfl
theorem take_all {dk : List Nat} {j : Nat} (h : dk.length ≤ j) : dk.take j = dk := List.take_of_length_le h
theorem Asg.moved {s u : State} (h : Asg s) (hvm : s.vm.Alike u.vm) : Asg u := fun k hk comp c0 h1 h2 => by
  rw [hvm.findClass] at h1 h2
  rw [hvm.assignable]
  exact h k hk comp c0 h1 h2
section XDeck
variable {p : Program} {l : Launch} {e : Env} {R : Room} {s : State} {m : MethodId} {args : Array Value} {below : List Frame} {meth : Method} {c : Code} {H : Heap} {locs : List Loc} {cells slots : Nat} {Q : State → Prop}
variable {cc b : ByteArray} {nL mL index pc : Nat} {ls : Array Slot} {st0 rest As : List Value} {own : String} {y : MethodName} {hd : Cond} {ret : Option FieldType} {rm : Room} {Pre Post : State → Prop} {oc : Option Value ⊕ String} {D : va_G} {A : Nat → Prop} {P : SwP} {F : Nat → Nat → Int32} {B G : Nat → Int32} {n : Int32} {fd : Nat → Option Nat} {i a : Nat}
theorem xD_ldN (C : CallFix p m c cc nL s args wB own) (hw : XwR D A P F B G n fd s H) {j : Nat} (hj : j < 24) {x : Int32} (hx : x = nI j) (hv : fd j = none) (hdg : decode cc pc = .ok (.aaload, 1)) (kk : W p l e R s m args below meth c H locs cells slots Q (F0 m (pc + 1) ls (.null :: rest))) : W p l e R s m args below meth c H locs cells slots Q (F0 m pc ls (.int x :: .ref (pD P) :: rest)) :=
  xD_ld C hw hj hx hdg (by rw [hv]; exact kk)
theorem xD_ldS (C : CallFix p m c cc nL s args wB own) (hw : XwR D A P F B G n fd s H) {j v : Nat} (hj : j < 24) {x : Int32} (hx : x = nI j) (hv : fd j = some v) (hdg : decode cc pc = .ok (.aaload, 1)) (kk : W p l e R s m args below meth c H locs cells slots Q (F0 m (pc + 1) ls (.ref v :: rest))) : W p l e R s m args below meth c H locs cells slots Q (F0 m pc ls (.int x :: .ref (pD P) :: rest)) :=
  xD_ld C hw hj hx hdg (by rw [hv]; exact kk)
theorem xV_ldN (C : CallFix p m c cc nL s args wB own) (hw : XwR D A P F B G n fd s H) {j : Nat} (hj : j < 24) {x : Int32} (hx : x = nI j) (hv : ¬ j < pn P) (hdg : decode cc pc = .ok (.aaload, 1)) (kk : W p l e R s m args below meth c H locs cells slots Q (F0 m (pc + 1) ls (.null :: rest))) : W p l e R s m args below meth c H locs cells slots Q (F0 m pc ls (.int x :: .ref (pV P) :: rest)) :=
  xV_ld C hw hj hx hdg (by rw [show vfd P j = none by simp [vfd, hv]]; exact kk)
theorem xV_ldS (C : CallFix p m c cc nL s args wB own) (hw : XwR D A P F B G n fd s H) {j : Nat} (hj : j < 24) {x : Int32} (hx : x = nI j) (hv : j < pn P) (hdg : decode cc pc = .ok (.aaload, 1)) (kk : W p l e R s m args below meth c H locs cells slots Q (F0 m (pc + 1) ls (.ref (pa P j) :: rest))) : W p l e R s m args below meth c H locs cells slots Q (F0 m pc ls (.int x :: .ref (pV P) :: rest)) :=
  xV_ld C hw hj hx hdg (by rw [show vfd P j = some (pa P j) by simp [vfd, hv]]; exact kk)
/-- y.m(..) on an object whose class has y itself -/
theorem ct_V0 (S : CallFix p m c cc nL s args wB own) (hM : Ct l y hd rm A (.ref a :: As) Pre oc Post) (hbl : Bl Pre) (hhd : Hd y b mL ret hd) (hG : hd ∈ wB) (hini : Cond.initialized y.cls ∈ wB) (hR : rm.frames + 1 ≤ R.frames ∧ 8 + (mL + 11) + rm.locals ≤ R.locals)
    (h1 : Cond.methodLink own index y ∈ wB) (hy : y.cls ≠ "java/lang/invoke/MethodHandle" ∧ y.cls ≠ "java/lang/invoke/VarHandle") (h4 : Cond.selects y.cls y y ∈ wB) (h5 : Cond.instanceMethod y ∈ wB)
    (hrc : ∃ cellB : Cell, H[a]? = some cellB ∧ cellB.vm.isStatics = false ∧ s.vm.findClass y.cls = some cellB.cls) (hpre : ∀ U : State, U.heap = H → s.WarmedH U.vm → Pre U)
    (hsig : ∀ mk methM, s.methodNamed? y = some mk → s.vm.method? mk = some methM → parseMethodDescriptor y.desc = some methM.sig) (hlen : (parseMethodDescriptor y.desc).map (fun d => d.parameters.length) = some As.length) (hsize : ls.size = nL) (hst : st0 = As.reverse ++ .ref a :: rest) (hW : (rest.map fun v => v.category).sum ≤ 8) (hdg : decode cc pc = .ok (.invokevirtual index, 3)) (hf : cells + rm.cells ≤ R.cells ∧ slots + rm.slots ≤ R.slots) :
    CtR p l e R s m args below meth c H locs cells slots (F0 m pc ls st0) rest rm A oc Post := by
  have hK := ct_back (p := p) (e := e) (below := below) (R := R) hM hbl hhd hG hini S.2.2.2.2 hR
  obtain ⟨hx, hb, hml, ho, hts⟩ := S
  obtain ⟨cellB, hcB, hoB, hclB⟩ := hrc
  intro T hT X
  obtain ⟨mk, methM, hnamed, hmethM, hstM, habM⟩ := Cond.instanceMethod_spec (hts _ h5)
  obtain ⟨c2, r2, m2, q1, q2, q3, q4, kP, hkP, hkPi⟩ := Cond.selects_spec (hts _ h4)
  cases hclB.symm.trans q1
  cases (State.methodFound?_of_named hnamed hy).symm.trans q2
  cases hnamed.symm.trans q3
  have hselP : selectMethod e.platform s.vm cellB.cls mk = .method mk := by rw [Launch.admits_selectMethod X.admits]; exact q4
  have hdg' : decode c.code (F0 m pc ls st0).pc = .ok (.invokevirtual index, 3) := by rw [hb]; exact hdg
  obtain ⟨vm₁, X₁, hstep₁⟩ := X.invokevirtual hx ho (hts _ h1) hnamed hmethM hstM hkP hkPi hy (a := a) (cell := cellB) (by rw [hT]; exact hcB)
    (fun z h => by rw [h] at hoB; cases hoB) hselP hmethM habM hkP hkPi (g := F0 m pc ls st0) rfl (argsL := As) (rest := rest) (ct_len hlen _ (hsig mk methM hnamed hmethM)) hst hdg'
  rcases hK m meth c ⟨T.setVm vm₁, locs, cells, slots⟩ (F0 m pc ls rest) (.invokevirtual index) mk (Value.ref a :: As).toArray X₁ rfl (hsize.trans hml.symm) hdg' (by simpa [JFrame.monitorRoom] using hW) (X₁.named hnamed) ⟨hf.1, hf.2, rfl, hpre (T.setVm vm₁) hT X₁.warmed⟩ with ⟨v, ⟨U', l2, c2, s2⟩, X', ⟨g', mk', t, L, e1, e2, hq, h1, hL, h2, h3⟩, hsteps⟩ | ⟨q, ⟨U', l2, c2, s2⟩, X', ⟨g', mk', t, L, E, ce, e1, e2, hq, hce, hcv, hcl, h1, hL, h2, h3⟩, hsteps⟩
  · dsimp only [Pt.U, Pt.locs, Pt.cells, Pt.slots] at X' e1 e2 h1 h2 h3 hsteps
    subst h1; subst h2; subst h3
    exact Or.inl ⟨v, (T.setVm vm₁).calling g' mk' (Value.ref a :: As).toArray, t, U', L, hT, X', hL, e1, e2, hq, fun target h => hstep₁ _ fun acts => by rw [doInvoke_state]; exact hsteps.trans h⟩
  · dsimp only [Pt.U, Pt.locs, Pt.cells, Pt.slots] at X' e1 e2 h1 h2 h3 hsteps hcl
    subst h1; subst h2; subst h3
    exact Or.inr ⟨q, (T.setVm vm₁).calling g' mk' (Value.ref a :: As).toArray, t, U', L, E, ce, hT, X', hL, e1, e2, hq, hce, hcv, vx_cls X₁.warmed hcl, hstep₁ _ fun acts => by rw [doInvoke_state]; exact hsteps⟩
theorem x_recvB (hw : XwR D A P F B G n fd s H) : ∃ cellB : Cell, H[pB P]? = some cellB ∧ cellB.vm.isStatics = false ∧ s.vm.findClass RX0 = some cellB.cls := va_recv (q := (RX0, TX0, 7)) hw.1 hw.2.1 (ci := 9) (q0 := 1) rfl rfl
theorem x_recvS (hw : XwR D A P F B G n fd s H) : ∃ cellB : Cell, H[pS P]? = some cellB ∧ cellB.vm.isStatics = false ∧ s.vm.findClass RX10 = some cellB.cls := va_recv (q := (RX10, TX10, 3)) hw.1 hw.2.1 (ci := 10) (q0 := 0) rfl rfl
end XDeck
