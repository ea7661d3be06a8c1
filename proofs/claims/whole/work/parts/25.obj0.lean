theorem tbp_0 : Cond.selects "SwingBridge" ⟨"SwingBridge", "make", "(IIIII)LSwingBridge$Cart;"⟩ ⟨"SwingBridge", "make", "(IIIII)LSwingBridge$Cart;"⟩ ∈ wB := wB_in 0 (by decide +kernel) (by decide +kernel)
theorem tbp_1 : Cond.selects "SwingBridge" ⟨"SwingBridge", "find", "(I)LSwingBridge$Cart;"⟩ ⟨"SwingBridge", "find", "(I)LSwingBridge$Cart;"⟩ ∈ wB := wB_in 1 (by decide +kernel) (by decide +kernel)
theorem tbp_2 : Cond.selects "java/lang/Throwable" ⟨"java/lang/Throwable", "fillInStackTrace", "(I)Ljava/lang/Throwable;"⟩ ⟨"java/lang/Throwable", "fillInStackTrace", "(I)Ljava/lang/Throwable;"⟩ ∈ wB := wB_in 2 (by decide +kernel) (by decide +kernel)
theorem tbp_3 : Cond.selects "SwingBridgeModel" ⟨"SwingBridgeModel", "isVehicle", "(I)Z"⟩ ⟨"SwingBridgeModel", "isVehicle", "(I)Z"⟩ ∈ wB := wB_in 3 (by decide +kernel) (by decide +kernel)
theorem tbp_4 : Cond.selects "SwingBridgeModel" ⟨"SwingBridgeModel", "weightOf", "(I)I"⟩ ⟨"SwingBridgeModel", "weightOf", "(I)I"⟩ ∈ wB := wB_in 4 (by decide +kernel) (by decide +kernel)
theorem tbp_5 : Cond.selects "SwingBridgeModel" ⟨"SwingBridgeModel", "tollOf", "(II)I"⟩ ⟨"SwingBridgeModel", "tollOf", "(II)I"⟩ ∈ wB := wB_in 5 (by decide +kernel) (by decide +kernel)
theorem tbp_6 : Cond.selects "SwingBridgeModel" ⟨"SwingBridgeModel", "plainToll", "(I)I"⟩ ⟨"SwingBridgeModel", "plainToll", "(I)I"⟩ ∈ wB := wB_in 6 (by decide +kernel) (by decide +kernel)
theorem tbp_7 : Cond.selects "SwingBridgeModel" ⟨"SwingBridgeModel", "isFit", "(I)Z"⟩ ⟨"SwingBridgeModel", "isFit", "(I)Z"⟩ ∈ wB := wB_in 7 (by decide +kernel) (by decide +kernel)
theorem tbp_8 : Cond.selects "SwingBridgeModel" ⟨"SwingBridgeModel", "isPlainFit", "(I)Z"⟩ ⟨"SwingBridgeModel", "isPlainFit", "(I)Z"⟩ ∈ wB := wB_in 8 (by decide +kernel) (by decide +kernel)
theorem tbp_9 : Cond.selects "SwingBridgeModel" ⟨"SwingBridgeModel", "enters", "(II)I"⟩ ⟨"SwingBridgeModel", "enters", "(II)I"⟩ ∈ wB := wB_in 9 (by decide +kernel) (by decide +kernel)
theorem tbp_10 : Cond.selects "SwingBridgeModel" ⟨"SwingBridgeModel", "plainEnter", "(II)I"⟩ ⟨"SwingBridgeModel", "plainEnter", "(II)I"⟩ ∈ wB := wB_in 10 (by decide +kernel) (by decide +kernel)
theorem tbp_11 : Cond.selects "SwingBridgeModel" ⟨"SwingBridgeModel", "leaves", "(I)V"⟩ ⟨"SwingBridgeModel", "leaves", "(I)V"⟩ ∈ wB := wB_in 11 (by decide +kernel) (by decide +kernel)
theorem tbp_12 : Cond.selects "SwingBridgeModel" ⟨"SwingBridgeModel", "rebateOf", "(I)I"⟩ ⟨"SwingBridgeModel", "rebateOf", "(I)I"⟩ ∈ wB := wB_in 12 (by decide +kernel) (by decide +kernel)
theorem tbp_13 : Cond.selects "SwingBridgeModel" ⟨"SwingBridgeModel", "hasAccount", "(I)Z"⟩ ⟨"SwingBridgeModel", "hasAccount", "(I)Z"⟩ ∈ wB := wB_in 13 (by decide +kernel) (by decide +kernel)
theorem tbp_14 : Cond.selects "SwingBridgeModel" ⟨"SwingBridgeModel", "billOf", "(II)I"⟩ ⟨"SwingBridgeModel", "billOf", "(II)I"⟩ ∈ wB := wB_in 14 (by decide +kernel) (by decide +kernel)
/-! THE CALLS OF THE OBJECT, as numbers: how it ended, its answer, the state behind it -/
def vAt (n : Nat) (x : Int32) : Option Nat := if x < 0 then none else if x.toNatClampNeg < n then some x.toNatClampNeg else none
theorem vAt_lt {n j : Nat} {x : Int32} (h : vAt n x = some j) : j < n := by
  unfold vAt at h
  by_cases h0 : x < 0
  · rw [if_pos h0] at h; cases h
  · rw [if_neg h0] at h
    by_cases h1 : x.toNatClampNeg < n
    · rw [if_pos h1] at h; cases h; exact h1
    · rw [if_neg h1] at h; cases h
theorem vAt_nI {n j : Nat} (hj : j < 2 ^ 31) : vAt n (nI j) = if j < n then some j else none := by
  unfold vAt
  rw [if_neg (nI_pos hj), nI_clamp hj]
theorem vAt_ge {n N : Nat} {x : Int32} (h0 : ¬ x < 0) (h : ¬ x < nI N) (hn : n ≤ N) (hN : N < 2 ^ 31) : vAt n x = none := by
  obtain ⟨j, hj, rfl⟩ := nI_of h0
  rw [vAt_nI hj, if_neg]
  intro q
  exact h (nI_lt (by omega) hN)
abbrev R3 : Type := Nat × Int32 × SwSt
def onV (n : Nat) (x : Int32) (z : SwSt) (f : Nat → R3) : R3 := match vAt n x with
  | none => (0, -101, z)
  | some j => f j
theorem onV_n {n : Nat} {x : Int32} {z : SwSt} {f : Nat → R3} (h : vAt n x = none) : onV n x z f = (0, -101, z) := by unfold onV; rw [h]
theorem onV_s {n j : Nat} {x : Int32} {z : SwSt} {f : Nat → R3} (h : vAt n x = some j) : onV n x z f = f j := by unfold onV; rw [h]
def outs (x a b : Int32) : Bool := decide (x < a ∨ b < x)
theorem ifo_n {b : Bool} {α : Type} {x y : α} (h : b2i b = 0) : (if b = true then x else y) = y := if_neg (by rw [b2i_0 h]; decide)
theorem ifo_p {b : Bool} {α : Type} {x y : α} (h : ¬ b2i b = 0) : (if b = true then x else y) = x := if_pos (b2i_1 h)
def oWeight (K : Nat → Nat) (n : Nat) (x : Int32) (z : SwSt) : R3 := onV n x z (fun j => (0, wR (K j) z.1 j, z.1, wBk (K j) z.2.1, z.2.2))
def oToll (K : Nat → Nat) (n : Nat) (x h : Int32) (z : SwSt) : R3 := onV n x z (fun j => if outs h 0 23 = true then (0, -102, z) else if tX (K j) z.1 j = true then (2, 0, z.1, tB (K j) h z.2.1, upd z.2.2.1 6 (z.2.2.1 6 + 1), z.2.2.2) else (0, tR (K j) z.1 j h, z.1, tB (K j) h z.2.1, z.2.2))
def oFits (K : Nat → Nat) (n : Nat) (x : Int32) (z : SwSt) : R3 := onV n x z (fun j => (0, b2i (fR K z.1 z.2.2.1 z.2.2.2 j), z.1, fB K z.2.2.2 j z.2.1, z.2.2))
def oEnter (K : Nat → Nat) (n : Nat) (x h : Int32) (z : SwSt) : R3 := onV n x z (fun j => if outs h 0 23 = true then (0, -102, z) else if z.1 j 6 = 1 then (0, -103, z) else ((eN K j h z).1, (eN K j h z).2.1 j 7, (eN K j h z).2))
def oLeave (K : Nat → Nat) (n : Nat) (x : Int32) (z : SwSt) : R3 := onV n x z (fun j => if z.1 j 6 = 0 then (0, -103, z) else (0, nI (lR K j z).2.2.2.length, lR K j z))
def oRebate (K : Nat → Nat) (n : Nat) (x : Int32) (z : SwSt) : R3 := onV n x z (fun j => (0, rR (K j) z.1 j, z.1, rB (K j) z.2.1, z.2.2))
def oBill (K : Nat → Nat) (n : Nat) (x h : Int32) (z : SwSt) : R3 := onV n x z (fun j => if outs h 0 23 = true then (0, -102, z) else if hasAcc (K j) = true then (0, bR (K j) z.1 j h, z.1, bB (K j) h z.2.1, z.2.2) else (0, -103, z))
def oMonth (K : Nat → Nat) (n : Nat) (x d : Int32) (z : SwSt) : R3 := onV n x z (fun j => if outs d 0 31 = true then (0, -102, z) else if hasAcc (K j) = true then (0, mR (K j) z.1 j d, z.1, mB (K j) z.2.1, z.2.2) else (0, -103, z))
def tellF (w : Int32) : Option Nat := if w = 0 then some 2 else if w = 1 then some 3 else if w = 2 then some 5 else if w = 3 then some 4 else if w = 4 then some 6 else if w = 5 then some 7 else if w = 6 then some 8 else if w = 7 then some 9 else none
def oTell (n : Nat) (x w : Int32) (z : SwSt) : R3 := onV n x z (fun j => (0, match tellF w with | some k => z.1 j k | none => -102, z))
def oDeck (x : Int32) (z : SwSt) : R3 := (0, match dkAt z.2.2.2 x with | some v => nI v | none => -101, z)
def oBegan (x : Int32) (z : SwSt) : R3 := (0, if x < 0 then -102 else if x < 9 then z.2.1 x.toNatClampNeg else -102, z)
def oCount (n : Nat) (w : Int32) (z : SwSt) : R3 := (0, if w = 0 then nI n else if w = 1 then nI z.2.2.2.length else if w = 2 then z.2.2.1 3 else if w = 3 then (if z.2.2.1 4 = 0 then 0 else 1) else if w = 4 then z.2.2.1 5 else if w = 5 then z.2.2.1 6 else -102, z)
def oSwing (b : Int32) (z : SwSt) : R3 := if b ≠ 0 ∧ z.2.2.2 ≠ [] then (0, -103, z) else (0, if b = z.2.2.1 4 then 1 else 0, z.1, z.2.1, upd z.2.2.1 4 (if b = 0 then 1 else 0), z.2.2.2)
section CtStatic
variable {p : Program} {l : Launch} {e : Env} {R : Room} {s : State} {m : MethodId} {args : Array Value} {below : List Frame} {meth : Method} {c : Code} {H : Heap} {locs : List Loc} {cells slots : Nat} {Q : State → Prop}
variable {cc b : ByteArray} {nL mL index pc : Nat} {ls : Array Slot} {st0 rest As : List Value} {own : String} {y : MethodName} {hd : Cond} {ret : Option FieldType} {rm : Room} {A : Nat → Prop} {Pre Post : State → Prop} {oc : Option Value ⊕ String}
theorem ct_S (S : CallFix p m c cc nL s args wB own) (hM : Ct l y hd rm A As Pre oc Post) (hbl : Bl Pre) (hhd : Hd y b mL ret hd) (hG : hd ∈ wB) (hini : Cond.initialized y.cls ∈ wB) (hR : rm.frames + 1 ≤ R.frames ∧ 8 + (mL + 11) + rm.locals ≤ R.locals)
    (h1 : Cond.methodLink own index y ∈ wB) (hy : y.cls ≠ "java/lang/invoke/MethodHandle" ∧ y.cls ≠ "java/lang/invoke/VarHandle") (h4 : Cond.static y ∈ wB) (hpre : ∀ U : State, U.heap = H → s.WarmedH U.vm → Pre U)
    (hlen : (parseMethodDescriptor y.desc).map (fun d => d.parameters.length) = some As.length) (hsize : ls.size = nL) (hst : st0 = As.reverse ++ rest) (hW : (rest.map fun v => v.category).sum ≤ 8) (hdg : decode cc pc = .ok (.invokestatic index, 3)) (hf : cells + rm.cells ≤ R.cells ∧ slots + rm.slots ≤ R.slots) :
    CtR p l e R s m args below meth c H locs cells slots (F0 m pc ls st0) rest rm A oc Post := by
  have hK := ct_back (p := p) (e := e) (below := below) (R := R) hM hbl hhd hG hini S.2.2.2.2 hR
  obtain ⟨hx, hb, hml, ho, hts⟩ := S
  intro T hT X
  have hnm : ∃ (mk : MethodId) (methM : Method), s.methodNamed? y = some mk ∧ s.vm.method? mk = some methM ∧ parseMethodDescriptor y.desc = some methM.sig := by
    rcases hhd with rfl | ⟨hh, rfl⟩
    · obtain ⟨mk, hnamed⟩ := Cond.code_named (hts _ hG)
      obtain ⟨methM, cM, hmethM, -, -, -, -, -, -, hsigM⟩ := Cond.code_spec hnamed (hts _ hG)
      exact ⟨mk, methM, hnamed, hmethM, hsigM⟩
    · obtain ⟨mk, methM, cM, hnamed, hmethM, -, -, -, -, -, -, hsigM⟩ := Cond.codeWith_spec (hts _ hG)
      exact ⟨mk, methM, hnamed, hmethM, hsigM⟩
  obtain ⟨mk, methM, hnamed, hmethM, hsigM⟩ := hnm
  have hstatic : methM.isStatic = true := Cond.static_spec hnamed hmethM (hts _ h4)
  obtain ⟨kP, hkP, -⟩ := className_of_methodNamed hnamed
  have hinitP : kP.init = .initialized := Cond.initialized_spec (findClass_of_methodNamed hnamed) hkP (hts _ hini)
  have hdg' : decode c.code (F0 m pc ls st0).pc = .ok (.invokestatic index, 3) := by rw [hb]; exact hdg
  obtain ⟨vm₁, X₁, hstep₁⟩ := X.invokestatic hx ho (hts _ h1) hnamed hmethM hstatic hkP hinitP hy (g := F0 m pc ls st0) rfl (argsL := As) (rest := rest) (ct_len hlen _ hsigM) hst hdg'
  rcases hK m meth c ⟨T.setVm vm₁, locs, cells, slots⟩ (F0 m pc ls rest) (.invokestatic index) mk As.toArray X₁ rfl (hsize.trans hml.symm) hdg' (by simpa [JFrame.monitorRoom] using hW) (X₁.named hnamed) ⟨hf.1, hf.2, rfl, hpre (T.setVm vm₁) hT X₁.warmed⟩ with ⟨v, ⟨U', l2, c2, s2⟩, X', ⟨g', mk', t, L, e1, e2, hq, h1, hL, h2, h3⟩, hsteps⟩ | ⟨q, ⟨U', l2, c2, s2⟩, X', ⟨g', mk', t, L, E, ce, e1, e2, hq, hce, hcv, hcl, h1, hL, h2, h3⟩, hsteps⟩
  · dsimp only [Pt.U, Pt.locs, Pt.cells, Pt.slots] at X' e1 e2 h1 h2 h3 hsteps
    subst h1; subst h2; subst h3
    exact Or.inl ⟨v, (T.setVm vm₁).calling g' mk' As.toArray, t, U', L, hT, X', hL, e1, e2, hq, fun target h => hstep₁ _ fun acts => by rw [doInvoke_state]; exact hsteps.trans h⟩
  · dsimp only [Pt.U, Pt.locs, Pt.cells, Pt.slots] at X' e1 e2 h1 h2 h3 hsteps hcl
    subst h1; subst h2; subst h3
    exact Or.inr ⟨q, (T.setVm vm₁).calling g' mk' As.toArray, t, U', L, E, ce, hT, X', hL, e1, e2, hq, hce, hcv, vx_cls X₁.warmed hcl, hstep₁ _ fun acts => by rw [doInvoke_state]; exact hsteps⟩
/-- a call that asks for nothing of the heap and writes none of it -/
abbrev Tr : State → Prop := fun _ => True
abbrev No : Nat → Prop := fun _ => False
theorem Tr_bl : Bl Tr := fun _ _ _ _ _ => trivial
theorem x_kept {D : va_G} {P : SwP} {F : Nat → Nat → Int32} {B G : Nat → Int32} {n : Int32} {fd : Nat → Option Nat} {H1 : Heap} (hw : XwR D A P F B G n fd s H) (hk : ∀ q : Nat, q < H.size → ¬ No q → H1[q]? = H[q]?) : XwR D A P F B G n fd s H1 := ⟨hw.1, hw.2.1.kept (fun k q hq => hk q.1 (vx_lt hw.2.1 hq) (fun h => h)), hw.2.2⟩
end CtStatic
set_option maxHeartbeats 400000 in
set_option maxRecDepth 100000 in
/-- isOutside -/
theorem c_X10_isOutside (l : Launch) (x a b : Int32) : Ct l yX10_isOutside (.code yX10_isOutside cX10_isOutside 3 (some .boolean)) ({ frames := 0, cells := 0, slots := 0, locals := 0 }) No [.int x, .int a, .int b] Tr (.inl (some (.int (b2i (outs x a b))))) Tr := by
  refine ct_mk (by decide) (Nat.le_of_ble_eq_true rfl) (fun p e s m below meth c ls C hr hlocks hnm htab hP hl => ?_)
  have hS : va_S No s.heap s.heap [] := va_S.rf
  have hl : lv_has ls 3 [(0, .int x), (1, .int a), (2, .int b)] := hl
  refine lv_iload_n C.1 C.2.1 dX10_isOutside_0 rfl (lv_at hl 0 rfl) ?_
  refine lv_iload_n C.1 C.2.1 dX10_isOutside_1 rfl (lv_at hl 1 rfl) ?_
  refine lv_icmp_lt (tgt := 10) C.1 C.2.1 dX10_isOutside_2 (by decide) (fun h1 => ?_) (fun h1 => ?_)
  · refine lv_iconst (v := 1) C.1 C.2.1 dX10_isOutside_10 (by decide) ?_
    refine lv_goto (tgt := 15) C.1 C.2.1 dX10_isOutside_11 (by decide) ?_
    exact ct_z C hr hlocks (Or.inr rfl) (by rw [show outs x a b = true from decide_eq_true (Or.inl h1)]; rfl) (fun t ht hW => trivial) hS (Nat.le_of_ble_eq_true rfl) (Nat.le_of_ble_eq_true rfl) dX10_isOutside_15
  · refine lv_iload_n C.1 C.2.1 dX10_isOutside_5 rfl (lv_at hl 0 rfl) ?_
    refine lv_iload_n C.1 C.2.1 dX10_isOutside_6 rfl (lv_at hl 2 rfl) ?_
    refine lv_icmp_le (tgt := 14) C.1 C.2.1 dX10_isOutside_7 (by decide) (fun h2 => ?_) (fun h2 => ?_)
    · refine lv_iconst (v := 0) C.1 C.2.1 dX10_isOutside_14 (by decide) ?_
      exact ct_z C hr hlocks (Or.inl rfl) (by rw [show outs x a b = false from decide_eq_false (fun q => q.elim h1 (fun q => Int32.not_lt.mpr h2 q))]; rfl) (fun t ht hW => trivial) hS (Nat.le_of_ble_eq_true rfl) (Nat.le_of_ble_eq_true rfl) dX10_isOutside_15
    · refine lv_iconst (v := 1) C.1 C.2.1 dX10_isOutside_10 (by decide) ?_
      refine lv_goto (tgt := 15) C.1 C.2.1 dX10_isOutside_11 (by decide) ?_
      exact ct_z C hr hlocks (Or.inr rfl) (by rw [show outs x a b = true from decide_eq_true (Or.inr (Int32.not_le.mp h2))]; rfl) (fun t ht hW => trivial) hS (Nat.le_of_ble_eq_true rfl) (Nat.le_of_ble_eq_true rfl) dX10_isOutside_15
set_option maxHeartbeats 400000 in
set_option maxRecDepth 100000 in
/-- the vehicle of a number, or null -/
theorem c_X10_find (l : Launch) (D : va_G) (A : Nat → Prop) (P : SwP) (F : Nat → Nat → Int32) (B G : Nat → Int32) (dk : List Nat) (hO : Ok P F dk) (x : Int32) : Ct l yX10_find (.code yX10_find cX10_find 2 (some (.object "SwingBridge$Cart"))) ({ frames := 0, cells := 0, slots := 0, locals := 0 }) A [.ref (pS P), .int x] (Xp D A P F B G dk) (.inl (some (va_rf ((vAt (pn P) x).map (pa P))))) (Xp D A P F B G dk) := by
  refine ct_mk (by decide) (Nat.le_of_ble_eq_true rfl) (fun p e s m below meth c ls C hr hlocks hnm htab hP hl => ?_)
  have hw := hP
  have hS : va_S A s.heap s.heap [] := va_S.rf
  have hl : lv_has ls 2 [(0, .ref (pS P)), (1, .int x)] := hl
  refine lv_iload_n C.1 C.2.1 dX10_find_0 rfl (lv_at hl 1 rfl) ?_
  refine lv_if_lt (tgt := 13) C.1 C.2.1 dX10_find_1 (by decide) (fun h1 => ?_) (fun h1 => ?_)
  · refine lv_null C.1 C.2.1 dX10_find_13 ?_
    exact ct_a (r := none) C hr (Or.inl ⟨_, rfl⟩) hlocks (by rw [show vAt (pn P) x = none from if_pos h1]; rfl) (fun t ht hW => x_post hw ht hW) hS (Nat.le_of_ble_eq_true rfl) (Nat.le_of_ble_eq_true rfl) dX10_find_14
  · refine lv_iload_n C.1 C.2.1 dX10_find_4 rfl (lv_at hl 1 rfl) ?_
    refine lv_aload_n C.1 C.2.1 dX10_find_5 rfl (lv_at hl 0 rfl) ?_
    refine xs_get C hw 1 (by decide) tb_82 rfl dX10_find_6 ?_
    refine xV_len C hw dX10_find_9 ?_
    refine lv_icmp_lt (tgt := 15) C.1 C.2.1 dX10_find_10 (by decide) (fun h2 => ?_) (fun h2 => ?_)
    · obtain ⟨j, hj, rfl⟩ := nI_of h1
      have hj24 : j < 24 := (nI_ltI hj (by omega)).mp h2
      refine lv_aload_n C.1 C.2.1 dX10_find_15 rfl (lv_at hl 0 rfl) ?_
      refine xs_get C hw 1 (by decide) tb_82 rfl dX10_find_16 ?_
      refine lv_iload_n C.1 C.2.1 dX10_find_19 rfl (lv_at hl 1 rfl) ?_
      refine xV_ld C hw hj24 rfl dX10_find_20 ?_
      exact ct_a (r := vfd P j) C hr (Or.inl ⟨_, rfl⟩) hlocks (by rw [vAt_nI hj]; unfold vfd; by_cases q : j < pn P; rw [if_pos q, if_pos q]; rfl; rw [if_neg q, if_neg q]; rfl) (fun t ht hW => x_post hw ht hW) hS (Nat.le_of_ble_eq_true rfl) (Nat.le_of_ble_eq_true rfl) dX10_find_21
    · refine lv_null C.1 C.2.1 dX10_find_13 ?_
      exact ct_a (r := none) C hr (Or.inl ⟨_, rfl⟩) hlocks (by rw [vAt_ge (N := 24) h1 h2 hO.1 (by omega)]; rfl) (fun t ht hW => x_post hw ht hW) hS (Nat.le_of_ble_eq_true rfl) (Nat.le_of_ble_eq_true rfl) dX10_find_14
