/-- how an act ended: 0 it came to its end, 1 STOPPED, 2 ARITHMETIC -/
def ocE (n : Nat) (v : Option Value) : Option Value ⊕ String := if n = 0 then .inl v else if n = 1 then .inr ISE else .inr AE
theorem ocE_l {n : Nat} {v w : Option Value} (h : ocE n v = .inl w) : n = 0 ∧ w = v := by
  unfold ocE at h
  by_cases h0 : n = 0
  · rw [if_pos h0] at h; exact ⟨h0, (Sum.inl.inj h).symm⟩
  · rw [if_neg h0] at h
    by_cases h1 : n = 1
    · rw [if_pos h1] at h; cases h
    · rw [if_neg h1] at h; cases h
theorem ocE_r {n : Nat} {v : Option Value} {E : String} (h : ocE n v = .inr E) : (n = 1 ∧ E = ISE) ∨ (n ≠ 0 ∧ n ≠ 1 ∧ E = AE) := by
  unfold ocE at h
  by_cases h0 : n = 0
  · rw [if_pos h0] at h; cases h
  · rw [if_neg h0] at h
    by_cases h1 : n = 1
    · rw [if_pos h1] at h; exact Or.inl ⟨h1, (Sum.inr.inj h).symm⟩
    · rw [if_neg h1] at h; exact Or.inr ⟨h0, h1, (Sum.inr.inj h).symm⟩
theorem ocE_0 {n : Nat} {v : Option Value} (h : n = 0) : ocE n v = .inl v := if_pos h
/-- TOLL: its end, and what it does to the counts -/
def tO (k : Nat) (F : Nat → Nat → Int32) (i : Nat) (h : Int32) : Option Value ⊕ String := if tX k F i = true then .inr AE else .inl (some (.int (tR k F i h)))
def tG (k : Nat) (F : Nat → Nat → Int32) (i : Nat) (G : Nat → Int32) : Nat → Int32 := if tX k F i = true then upd G 6 (G 6 + 1) else G
theorem tO_r {k i : Nat} {F : Nat → Nat → Int32} {h : Int32} {E : String} (q : tO k F i h = .inr E) : tX k F i = true ∧ E = AE := by
  unfold tO at q
  by_cases h0 : tX k F i = true
  · rw [if_pos h0] at q; exact ⟨h0, (Sum.inr.inj q).symm⟩
  · rw [if_neg h0] at q; cases q
theorem tO_l {k i : Nat} {F : Nat → Nat → Int32} {h : Int32} {v : Option Value} (q : tO k F i h = .inl v) : tX k F i = false ∧ v = some (.int (tR k F i h)) := by
  unfold tO at q
  by_cases h0 : tX k F i = true
  · rw [if_pos h0] at q; cases q
  · rw [if_neg h0] at q; exact ⟨Bool.eq_false_iff.mpr h0, (Sum.inl.inj q).symm⟩
/-- ENTER by TANKER, by CYCLE, out of UNDER's end r -/
def eT (r : Nat × SwSt) : Nat × SwSt := if r.1 = 0 then (0, r.2.1, r.2.2.1, upd r.2.2.2.1 3 (mx (r.2.2.2.1 3 - 100) 0), r.2.2.2.2) else r
def eC (K : Nat → Nat) (i : Nat) (h : Int32) (r : Nat × SwSt) : Nat × SwSt := if r.1 = 1 then pE K i h r.2 else r
def eN (K : Nat → Nat) (i : Nat) (h : Int32) (z : SwSt) : Nat × SwSt :=
  if K i = 3 then pE K i h (uF z.1 i 9 (z.1 i 9 + 1), iB z.2.1 3, z.2.2)
  else if K i = 5 then eT (pE K i h (z.1, iB z.2.1 5, z.2.2))
  else if K i = 6 ∨ K i = 7 then pE K i h (uF z.1 i 5 (mn (z.1 i 5 + 40) 5000), iB z.2.1 6, z.2.2)
  else if K i = 8 then eC K i h (pE K i h (z.1, iB z.2.1 8, z.2.2))
  else pE K i h z
theorem pE_s {K : Nat → Nat} {i : Nat} {h : Int32} {F : Nat → Nat → Int32} {B G : Nat → Int32} {dk : List Nat} (q : fR K F G dk i = false) : pE K i h (F, B, G, dk) = (1, F, fB K dk i (iB B 0), upd G 5 (G 5 + 1), dk) := if_pos q
theorem pE_x {K : Nat → Nat} {i : Nat} {h : Int32} {F : Nat → Nat → Int32} {B G : Nat → Int32} {dk : List Nat} (q : fR K F G dk i = true) (q2 : tX (K i) F i = true) : pE K i h (F, B, G, dk) = (2, F, tB (K i) h (fB K dk i (iB B 0)), upd G 6 (G 6 + 1), dk) := (if_neg (by rw [q]; decide)).trans (if_pos q2)
theorem pE_0 {K : Nat → Nat} {i : Nat} {h : Int32} {F : Nat → Nat → Int32} {B G : Nat → Int32} {dk : List Nat} (q : fR K F G dk i = true) (q2 : tX (K i) F i = false) : pE K i h (F, B, G, dk) = (0, uF (uF (uF F i 7 (F i 7 + tR (K i) F i h)) i 8 (F i 8 + 1)) i 6 1, tB (K i) h (fB K dk i (iB B 0)), G, dk ++ [i]) := (if_neg (by rw [q]; decide)).trans (if_neg (by rw [q2]; decide))
theorem pE_1 {K : Nat → Nat} {i : Nat} {h : Int32} {F : Nat → Nat → Int32} {B G : Nat → Int32} {dk : List Nat} (q : (pE K i h (F, B, G, dk)).1 = 1) : pE K i h (F, B, G, dk) = (1, F, fB K dk i (iB B 0), upd G 5 (G 5 + 1), dk) := by
  cases h1 : fR K F G dk i with
  | false => exact pE_s h1
  | true =>
    cases h2 : tX (K i) F i with
    | false => rw [pE_0 h1 h2] at q; exact absurd (show (0 : Nat) = 1 from q) (by decide)
    | true => rw [pE_x h1 h2] at q; exact absurd (show (2 : Nat) = 1 from q) (by decide)
theorem covers_f {z : ExceptionTableEntry} {pc : Nat} (h : ¬ (z.startPc ≤ pc ∧ pc < z.endPc)) : covers z pc = false := by
  unfold covers
  by_cases h1 : z.startPc ≤ pc <;> by_cases h2 : pc < z.endPc <;> simp [h1, h2] <;> exact h ⟨h1, h2⟩
section XOut
variable {p : Program} {l : Launch} {e : Env} {R : Room} {s : State} {m : MethodId} {args : Array Value} {below : List Frame} {meth : Method} {c : Code} {H : Heap} {locs : List Loc} {cells slots pc : Nat} {ls : Array Slot} {rest : List Value} {rm : Room} {Post : State → Prop} {oc : Option Value ⊕ String} {A : Nat → Prop} {E : String} {ce : Cell} {q : Addr}
theorem x_al {D : va_G} {P : SwP} {F : Nat → Nat → Int32} {B G : Nat → Int32} {n : Int32} {fd : Nat → Option Nat} {t : State} (hw : XwR D A P F B G n fd s H) (ht : t.heap = H) (hvm : s.vm.Alike t.vm) : XwR D A P F B G n fd t t.heap := by rw [ht]; exact hw.moved hvm
/-- a thrown object goes on to the caller -/
theorem ct_out (hout : ∀ x ∈ c.exceptionTable.toList, covers x pc = false) (hlocks : meth.locks = false) (hce : H[q]? = some ce) (hcv : ce.vm = .none) (hcl : s.vm.findClass E = some ce.cls) (hoc : oc = .inr E) (hp : ∀ t : State, t.heap = H → s.vm.Alike t.vm → Post t) (hS : va_S A s.heap H locs) (hc : cells ≤ rm.cells) (hs : slots ≤ rm.slots) :
    vx_W p l e R s m args below meth c H locs cells slots (CtQ below s args rm A oc Post) (F0 m pc ls rest) q :=
  vx_out hout hlocks hce hcv hcl (fun t ht hvm => ⟨hoc, hp t ht hvm, hS.F ht⟩) hS.2.2 hc hs
/-- a body with a table of handlers -/
theorem ct_mkH {y : MethodName} {cc : ByteArray} {mL : Nat} {ret : Option FieldType} {hh : List (Nat × Nat × Nat × Nat)} {Pre : State → Prop} {av : List Value} (hy : plainName y.cls = true) (hsl : (lg_sl av).length ≤ mL)
    (body : ∀ (p : Program) (e : Env) (s : State) (m : MethodId) (below : List Frame) (meth : Method) (c : Code) (ls : Array Slot), CallFix p m c cc mL s av.toArray wB y.cls → meth.sig.returnType = ret → meth.locks = false → c.exceptionTable.toList = tableOf hh → Pre s → lv_has ls mL (lv_args 0 av) →
      W p l e rm s m av.toArray below meth c s.heap [] 0 0 (CtQ below s av.toArray rm A oc Post) (F0 m 0 ls [])) : Ct l y (.codeWith y cc mL ret hh) rm A av Pre oc Post := by
  refine vx_ofWH (cc := cc) (maxL := mL) (ret := ret) (hh := hh) hy rfl ?_
  intro p e s m args below meth c s₁ B hml hv
  obtain ⟨rfl, hv⟩ := hv
  have hl := lv_entry av (n := mL) hsl
  rw [lg_entry_eq]
  have hts := atoms_spec (ws := Cond.codeWith y cc mL ret hh :: wB) B.pre
  exact body p e s m below meth c _ ⟨B.exec, B.bytes, hml, findClass_of_methodNamed B.named, fun w h => hts w (List.mem_cons_of_mem _ h)⟩ B.returns B.notSynchronized (vx_table (x := y) B (hts _ List.mem_cons_self)) hv hl
end XOut
set_option maxHeartbeats 400000 in
set_option maxRecDepth 100000 in
/-- CYCLE: 100 / LOAD (by 0 ARITHMETIC) -/
theorem c_X5_tollAct (l : Launch) (D : va_G) (A : Nat → Prop) (P : SwP) (F : Nat → Nat → Int32) (B G : Nat → Int32) (dk : List Nat) (i : Nat) (h : Int32) (hlt : l.stackTraces = false) (hi : i < pn P) (e0 : pk P i = 8) : Ct l yX5_tollAct (.code yX5_tollAct cX5_tollAct 2 (some .int)) ({ frames := 6, cells := 1, slots := 6, locals := 102 }) A [.ref (pa P i), .int h] (fun U => Ev A U ∧ Xp D A P F B G dk U) (tO (pk P i) F i h) (Xp D A P F (tB (pk P i) h B) (tG (pk P i) F i G) dk) := by
  refine ct_mk (by decide) (Nat.le_of_ble_eq_true rfl) (fun p e s m below meth c ls C hr hlocks hnm htab hP hl => ?_)
  obtain ⟨hE, hw⟩ := hP
  have hS : va_S A s.heap s.heap [] := va_S.rf
  have hl : lv_has ls 2 [(0, .ref (pa P i)), (1, .int h)] := hl
  have hk : pk P i < 9 := by omega
  rw [show tB (pk P i) h B = iB B 8 by unfold tB; rw [if_neg (by rw [e0]; decide), if_neg (by rw [e0]; decide), if_neg (by rw [e0]; decide), if_neg (by rw [e0]; decide), if_pos e0]]
  refine x_begun C hw hi hk tb_122 (Or.inr tb_123) tb_44 (lv_at hl 0 rfl) dX5_tollAct_0 dX5_tollAct_1 dX5_tollAct_4 ?_
  refine lv_bipush (v := 8) C.1 C.2.1 dX5_tollAct_7 (by decide) ?_
  refine x_inc C hw hS (j := 8) (by decide) (by decide) dX5_tollAct_9 dX5_tollAct_10 dX5_tollAct_11 dX5_tollAct_12 dX5_tollAct_13 (fun H locs hw hS => ?_)
  refine lv_aload_n C.1 C.2.1 dX5_tollAct_14 rfl (lv_at hl 0 rfl) ?_
  refine xv_get C hw hi hk 5 (by decide) tb_137 (Or.inr tb_138) rfl dX5_tollAct_15 ?_
  refine lv_if_ne (tgt := 44) C.1 C.2.1 dX5_tollAct_18 (by decide) (fun h1 => ?_) (fun h1 => ?_)
  · refine lv_bipush (v := 100) C.1 C.2.1 dX5_tollAct_44 (by decide) ?_
    refine lv_aload_n C.1 C.2.1 dX5_tollAct_46 rfl (lv_at hl 0 rfl) ?_
    refine xv_get C hw hi hk 5 (by decide) tb_137 (Or.inr tb_138) rfl dX5_tollAct_47 ?_
    refine lv_idiv C.1 C.2.1 dX5_tollAct_50 h1 ?_
    have hx : tX (pk P i) F i = false := decide_eq_false (fun q => h1 q.2)
    rw [show tO (pk P i) F i h = .inl (some (.int (100 / F i 5))) by unfold tO; rw [if_neg (by rw [hx]; decide), show tR (pk P i) F i h = 100 / F i 5 by unfold tR; rw [if_neg (by rw [e0]; decide), if_neg (by rw [e0]; decide), if_neg (by rw [e0]; decide), if_neg (by rw [e0]; decide), if_pos e0]; rw [if_neg h1]], show tG (pk P i) F i G = G from if_neg (by rw [hx]; decide)]
    exact ct_i C hr hlocks rfl (fun t ht hW => x_post hw ht hW) hS (Nat.le_of_ble_eq_true rfl) (Nat.le_of_ble_eq_true rfl) dX5_tollAct_51
  · refine lv_aload_n C.1 C.2.1 dX5_tollAct_21 rfl (lv_at hl 0 rfl) ?_
    refine xv_get C hw hi hk 0 (by decide) tb_122 (Or.inr tb_123) rfl dX5_tollAct_22 ?_
    refine lv_dup C.1 C.2.1 dX5_tollAct_25 rfl ?_
    refine xb_get C hw 6 (by decide) tb_62 rfl dX5_tollAct_26 ?_
    refine lv_iconst (v := 1) C.1 C.2.1 dX5_tollAct_29 (by decide) ?_
    refine lv_iadd C.1 C.2.1 dX5_tollAct_30 ?_
    refine xb_puti C hw hS 6 (by decide) tb_62 dX5_tollAct_31 (fun H locs hw hS => ?_)
    have hx : tX (pk P i) F i = true := decide_eq_true ⟨e0, h1⟩
    rw [show tO (pk P i) F i h = .inr AE from if_pos hx, show tG (pk P i) F i G = upd G 6 (G 6 + 1) from if_pos hx]
    exact x_thr5 C hlt hE hlocks htab hS hl.1 dX5_tollAct_34 dX5_tollAct_37 dX5_tollAct_38 dX5_tollAct_40 dX5_tollAct_43 ⟨Nat.le_of_ble_eq_true rfl, Nat.le_of_ble_eq_true rfl, Nat.le_of_ble_eq_true rfl, Nat.le_of_ble_eq_true rfl⟩ (Nat.le_of_ble_eq_true rfl) (Nat.le_of_ble_eq_true rfl) rfl (fun t hvm hk => x_grow hw hvm hk)
section XV5
variable {p : Program} {l : Launch} {e : Env} {R : Room} {s : State} {m : MethodId} {args : Array Value} {below : List Frame} {meth : Method} {c : Code} {H : Heap} {locs : List Loc} {cells slots : Nat}
variable {cc : ByteArray} {nL index pc : Nat} {ls : Array Slot} {rest : List Value} {own : String} {D : va_G} {A : Nat → Prop} {P : SwP} {F : Nat → Nat → Int32} {B G : Nat → Int32} {dk : List Nat} {i : Nat}

set_option maxHeartbeats 400000 in
set_option maxRecDepth 100000 in
theorem v_toll (C : CallFix p m c cc nL s args wB own) (hw : XwR D A P F B G (nI dk.length) (dfd P dk) s H) (hi : i < pn P) (hk : pk P i < 9) {h : Int32} (hlt : l.stackTraces = false) (hE : Ev A s) (hS : va_S A s.heap H locs) (h1 : Cond.methodLink own index ⟨"SwingBridge$Cart", "tollAct", "(I)I"⟩ ∈ wB) (hsize : ls.size = nL) (hdg : decode cc pc = .ok (.invokevirtual index, 3)) (hR : 7 ≤ R.frames ∧ 124 ≤ R.locals) (hW : (rest.map fun v => v.category).sum ≤ 8) (hf : cells + 1 ≤ R.cells ∧ slots + 6 ≤ R.slots) :
    CtR p l e R s m args below meth c H locs cells slots (F0 m pc ls (.int h :: .ref (pa P i) :: rest)) rest ({ frames := 6, cells := 1, slots := 6, locals := 102 }) A (tO (pk P i) F i h) (Xp D A P F (tB (pk P i) h B) (tG (pk P i) F i G) dk) := by
  have hx0 : va_Decl s ⟨"SwingBridge$Cart", "tollAct", "(I)I"⟩ := va_Decl.of (C.2.2.2.2 _ tb_475) (C.2.2.2.2 _ tb_571)
  rcases (show pk P i = 0 ∨ pk P i = 1 ∨ pk P i = 2 ∨ pk P i = 3 ∨ pk P i = 4 ∨ pk P i = 5 ∨ pk P i = 6 ∨ pk P i = 7 ∨ pk P i = 8 by omega) with e0 | e0 | e0 | e0 | e0 | e0 | e0 | e0 | e0
  · have hx : tX (pk P i) F i = false := by simp [tX, e0]
    rw [show tO (pk P i) F i h = .inl (some (.int (tP (pk P i) F i))) by unfold tO; rw [if_neg (by rw [hx]; decide), show tR (pk P i) F i h = (tP (pk P i) F i) by unfold tR; rw [if_neg (by rw [e0]; decide), if_neg (by rw [e0]; decide), if_neg (by rw [e0]; decide), if_neg (by rw [e0]; decide), if_neg (by rw [e0]; decide)]], show tB (pk P i) h B = (tPB (pk P i) B) by unfold tB; rw [if_neg (by rw [e0]; decide), if_neg (by rw [e0]; decide), if_neg (by rw [e0]; decide), if_neg (by rw [e0]; decide), if_neg (by rw [e0]; decide)], show tG (pk P i) F i G = G from if_neg (by rw [hx]; decide)]
    exact ctR_wide (ct_V C (c_X4_tollAct l D A P F B G dk i h hi hk) Xp_bl (Or.inl rfl) tb_571 tb_4 ⟨Nat.le_trans (Nat.le_of_ble_eq_true rfl) hR.1, Nat.le_trans (Nat.le_of_ble_eq_true rfl) hR.2⟩ h1 tb_477 hx0 ⟨by decide, by decide⟩ (CN := cN (pk P i)) (by rw [e0]; exact tb_476) tb_475 (x_recv hw hi hk) (fun U hU hW => x_post hw hU hW) (by show _ = some 1; decide +kernel) hsize rfl hW hdg ⟨Nat.le_trans (Nat.add_le_add_left (Nat.le_of_ble_eq_true rfl) _) hf.1, Nat.le_trans (Nat.add_le_add_left (Nat.le_of_ble_eq_true rfl) _) hf.2⟩) (Nat.le_of_ble_eq_true rfl) (Nat.le_of_ble_eq_true rfl)
  · have hx : tX (pk P i) F i = false := by simp [tX, e0]
    rw [show tO (pk P i) F i h = .inl (some (.int (tP (pk P i) F i))) by unfold tO; rw [if_neg (by rw [hx]; decide), show tR (pk P i) F i h = (tP (pk P i) F i) by unfold tR; rw [if_neg (by rw [e0]; decide), if_neg (by rw [e0]; decide), if_neg (by rw [e0]; decide), if_neg (by rw [e0]; decide), if_neg (by rw [e0]; decide)]], show tB (pk P i) h B = (tPB (pk P i) B) by unfold tB; rw [if_neg (by rw [e0]; decide), if_neg (by rw [e0]; decide), if_neg (by rw [e0]; decide), if_neg (by rw [e0]; decide), if_neg (by rw [e0]; decide)], show tG (pk P i) F i G = G from if_neg (by rw [hx]; decide)]
    exact ctR_wide (ct_V C (c_X4_tollAct l D A P F B G dk i h hi hk) Xp_bl (Or.inl rfl) tb_571 tb_4 ⟨Nat.le_trans (Nat.le_of_ble_eq_true rfl) hR.1, Nat.le_trans (Nat.le_of_ble_eq_true rfl) hR.2⟩ h1 tb_477 hx0 ⟨by decide, by decide⟩ (CN := cN (pk P i)) (by rw [e0]; exact tb_570) tb_475 (x_recv hw hi hk) (fun U hU hW => x_post hw hU hW) (by show _ = some 1; decide +kernel) hsize rfl hW hdg ⟨Nat.le_trans (Nat.add_le_add_left (Nat.le_of_ble_eq_true rfl) _) hf.1, Nat.le_trans (Nat.add_le_add_left (Nat.le_of_ble_eq_true rfl) _) hf.2⟩) (Nat.le_of_ble_eq_true rfl) (Nat.le_of_ble_eq_true rfl)
  · have hx : tX (pk P i) F i = false := by simp [tX, e0]
    rw [show tO (pk P i) F i h = .inl (some (.int (tP (pk P i) F i + 10))) by unfold tO; rw [if_neg (by rw [hx]; decide), show tR (pk P i) F i h = (tP (pk P i) F i + 10) by unfold tR; rw [if_pos e0]], show tB (pk P i) h B = (tPB (pk P i) (iB B 2)) by unfold tB; rw [if_pos e0], show tG (pk P i) F i G = G from if_neg (by rw [hx]; decide)]
    exact ctR_wide (ct_V C (c_X3_tollAct l D A P F B G dk i h hi hk) Xp_bl (Or.inl rfl) tb_484 tb_6 ⟨Nat.le_trans (Nat.le_of_ble_eq_true rfl) hR.1, Nat.le_trans (Nat.le_of_ble_eq_true rfl) hR.2⟩ h1 tb_477 hx0 ⟨by decide, by decide⟩ (CN := cN (pk P i)) (by rw [e0]; exact tb_488) tb_483 (x_recv hw hi hk) (fun U hU hW => x_post hw hU hW) (by show _ = some 1; decide +kernel) hsize rfl hW hdg ⟨Nat.le_trans (Nat.add_le_add_left (Nat.le_of_ble_eq_true rfl) _) hf.1, Nat.le_trans (Nat.add_le_add_left (Nat.le_of_ble_eq_true rfl) _) hf.2⟩) (Nat.le_of_ble_eq_true rfl) (Nat.le_of_ble_eq_true rfl)
  · have hx : tX (pk P i) F i = false := by simp [tX, e0]
    rw [show tO (pk P i) F i h = .inl (some (.int (if 20 ≤ h then 2 * (tP (pk P i) F i + 10) else if 6 ≤ h then tP (pk P i) F i + 10 + F i 9 else 2 * (tP (pk P i) F i + 10)))) by unfold tO; rw [if_neg (by rw [hx]; decide), show tR (pk P i) F i h = (if 20 ≤ h then 2 * (tP (pk P i) F i + 10) else if 6 ≤ h then tP (pk P i) F i + 10 + F i 9 else 2 * (tP (pk P i) F i + 10)) by unfold tR; rw [if_neg (by rw [e0]; decide), if_pos e0]], show tB (pk P i) h B = (tPB (pk P i) (iB (iB B 3) 2)) by unfold tB; rw [if_neg (by rw [e0]; decide), if_pos e0], show tG (pk P i) F i G = G from if_neg (by rw [hx]; decide)]
    exact ctR_wide (ct_V C (c_X2_tollAct l D A P F B G dk i h hi hk) Xp_bl (Or.inl rfl) tb_481 tb_7 ⟨Nat.le_trans (Nat.le_of_ble_eq_true rfl) hR.1, Nat.le_trans (Nat.le_of_ble_eq_true rfl) hR.2⟩ h1 tb_477 hx0 ⟨by decide, by decide⟩ (CN := cN (pk P i)) (by rw [e0]; exact tb_479) tb_480 (x_recv hw hi hk) (fun U hU hW => x_post hw hU hW) (by show _ = some 1; decide +kernel) hsize rfl hW hdg ⟨Nat.le_trans (Nat.add_le_add_left (Nat.le_of_ble_eq_true rfl) _) hf.1, Nat.le_trans (Nat.add_le_add_left (Nat.le_of_ble_eq_true rfl) _) hf.2⟩) (Nat.le_of_ble_eq_true rfl) (Nat.le_of_ble_eq_true rfl)
  · have hx : tX (pk P i) F i = false := by simp [tX, e0]
    rw [show tO (pk P i) F i h = .inl (some (.int (tP (pk P i) F i))) by unfold tO; rw [if_neg (by rw [hx]; decide), show tR (pk P i) F i h = (tP (pk P i) F i) by unfold tR; rw [if_neg (by rw [e0]; decide), if_neg (by rw [e0]; decide), if_neg (by rw [e0]; decide), if_neg (by rw [e0]; decide), if_neg (by rw [e0]; decide)]], show tB (pk P i) h B = (tPB (pk P i) B) by unfold tB; rw [if_neg (by rw [e0]; decide), if_neg (by rw [e0]; decide), if_neg (by rw [e0]; decide), if_neg (by rw [e0]; decide), if_neg (by rw [e0]; decide)], show tG (pk P i) F i G = G from if_neg (by rw [hx]; decide)]
    exact ctR_wide (ct_V C (c_X4_tollAct l D A P F B G dk i h hi hk) Xp_bl (Or.inl rfl) tb_571 tb_4 ⟨Nat.le_trans (Nat.le_of_ble_eq_true rfl) hR.1, Nat.le_trans (Nat.le_of_ble_eq_true rfl) hR.2⟩ h1 tb_477 hx0 ⟨by decide, by decide⟩ (CN := cN (pk P i)) (by rw [e0]; exact tb_564) tb_475 (x_recv hw hi hk) (fun U hU hW => x_post hw hU hW) (by show _ = some 1; decide +kernel) hsize rfl hW hdg ⟨Nat.le_trans (Nat.add_le_add_left (Nat.le_of_ble_eq_true rfl) _) hf.1, Nat.le_trans (Nat.add_le_add_left (Nat.le_of_ble_eq_true rfl) _) hf.2⟩) (Nat.le_of_ble_eq_true rfl) (Nat.le_of_ble_eq_true rfl)
  · have hx : tX (pk P i) F i = false := by simp [tX, e0]
    rw [show tO (pk P i) F i h = .inl (some (.int (tP (pk P i) F i + 50))) by unfold tO; rw [if_neg (by rw [hx]; decide), show tR (pk P i) F i h = (tP (pk P i) F i + 50) by unfold tR; rw [if_neg (by rw [e0]; decide), if_neg (by rw [e0]; decide), if_pos e0]], show tB (pk P i) h B = (tPB (pk P i) (iB B 5)) by unfold tB; rw [if_neg (by rw [e0]; decide), if_neg (by rw [e0]; decide), if_pos e0], show tG (pk P i) F i G = G from if_neg (by rw [hx]; decide)]
    exact ctR_wide (ct_V C (c_X8_tollAct l D A P F B G dk i h hi hk) Xp_bl (Or.inl rfl) tb_567 tb_9 ⟨Nat.le_trans (Nat.le_of_ble_eq_true rfl) hR.1, Nat.le_trans (Nat.le_of_ble_eq_true rfl) hR.2⟩ h1 tb_477 hx0 ⟨by decide, by decide⟩ (CN := cN (pk P i)) (by rw [e0]; exact tb_565) tb_566 (x_recv hw hi hk) (fun U hU hW => x_post hw hU hW) (by show _ = some 1; decide +kernel) hsize rfl hW hdg ⟨Nat.le_trans (Nat.add_le_add_left (Nat.le_of_ble_eq_true rfl) _) hf.1, Nat.le_trans (Nat.add_le_add_left (Nat.le_of_ble_eq_true rfl) _) hf.2⟩) (Nat.le_of_ble_eq_true rfl) (Nat.le_of_ble_eq_true rfl)
  · have hx : tX (pk P i) F i = false := by simp [tX, e0]
    rw [show tO (pk P i) F i h = .inl (some (.int (tP (pk P i) F i))) by unfold tO; rw [if_neg (by rw [hx]; decide), show tR (pk P i) F i h = (tP (pk P i) F i) by unfold tR; rw [if_neg (by rw [e0]; decide), if_neg (by rw [e0]; decide), if_neg (by rw [e0]; decide), if_neg (by rw [e0]; decide), if_neg (by rw [e0]; decide)]], show tB (pk P i) h B = (tPB (pk P i) B) by unfold tB; rw [if_neg (by rw [e0]; decide), if_neg (by rw [e0]; decide), if_neg (by rw [e0]; decide), if_neg (by rw [e0]; decide), if_neg (by rw [e0]; decide)], show tG (pk P i) F i G = G from if_neg (by rw [hx]; decide)]
    exact ctR_wide (ct_V C (c_X4_tollAct l D A P F B G dk i h hi hk) Xp_bl (Or.inl rfl) tb_571 tb_4 ⟨Nat.le_trans (Nat.le_of_ble_eq_true rfl) hR.1, Nat.le_trans (Nat.le_of_ble_eq_true rfl) hR.2⟩ h1 tb_477 hx0 ⟨by decide, by decide⟩ (CN := cN (pk P i)) (by rw [e0]; exact tb_478) tb_475 (x_recv hw hi hk) (fun U hU hW => x_post hw hU hW) (by show _ = some 1; decide +kernel) hsize rfl hW hdg ⟨Nat.le_trans (Nat.add_le_add_left (Nat.le_of_ble_eq_true rfl) _) hf.1, Nat.le_trans (Nat.add_le_add_left (Nat.le_of_ble_eq_true rfl) _) hf.2⟩) (Nat.le_of_ble_eq_true rfl) (Nat.le_of_ble_eq_true rfl)
  · have hx : tX (pk P i) F i = false := by simp [tX, e0]
    rw [show tO (pk P i) F i h = .inl (some (.int (if 22 ≤ h then 0 else if 5 ≤ h then tP (pk P i) F i else 0))) by unfold tO; rw [if_neg (by rw [hx]; decide), show tR (pk P i) F i h = (if 22 ≤ h then 0 else if 5 ≤ h then tP (pk P i) F i else 0) by unfold tR; rw [if_neg (by rw [e0]; decide), if_neg (by rw [e0]; decide), if_neg (by rw [e0]; decide), if_pos e0]], show tB (pk P i) h B = (if 22 ≤ h then iB B 7 else if 5 ≤ h then tPB (pk P i) (iB B 7) else iB B 7) by unfold tB; rw [if_neg (by rw [e0]; decide), if_neg (by rw [e0]; decide), if_neg (by rw [e0]; decide), if_pos e0], show tG (pk P i) F i G = G from if_neg (by rw [hx]; decide)]
    exact ctR_wide (ct_V C (c_X6_tollAct l D A P F B G dk i h hi hk) Xp_bl (Or.inl rfl) tb_561 tb_11 ⟨Nat.le_trans (Nat.le_of_ble_eq_true rfl) hR.1, Nat.le_trans (Nat.le_of_ble_eq_true rfl) hR.2⟩ h1 tb_477 hx0 ⟨by decide, by decide⟩ (CN := cN (pk P i)) (by rw [e0]; exact tb_559) tb_560 (x_recv hw hi hk) (fun U hU hW => x_post hw hU hW) (by show _ = some 1; decide +kernel) hsize rfl hW hdg ⟨Nat.le_trans (Nat.add_le_add_left (Nat.le_of_ble_eq_true rfl) _) hf.1, Nat.le_trans (Nat.add_le_add_left (Nat.le_of_ble_eq_true rfl) _) hf.2⟩) (Nat.le_of_ble_eq_true rfl) (Nat.le_of_ble_eq_true rfl)
  · exact ctR_wide (ct_V C (c_X5_tollAct l D A P F B G dk i h hlt hi e0) Xe_bl (Or.inl rfl) tb_491 tb_12 ⟨Nat.le_trans (Nat.le_of_ble_eq_true rfl) hR.1, Nat.le_trans (Nat.le_of_ble_eq_true rfl) hR.2⟩ h1 tb_477 hx0 ⟨by decide, by decide⟩ (CN := cN (pk P i)) (by rw [e0]; exact tb_489) tb_490 (x_recv hw hi hk) (fun U hU hW => ⟨hE.go hS hU hW, x_post hw hU hW⟩) (by show _ = some 1; decide +kernel) hsize rfl hW hdg ⟨Nat.le_trans (Nat.add_le_add_left (Nat.le_of_ble_eq_true rfl) _) hf.1, Nat.le_trans (Nat.add_le_add_left (Nat.le_of_ble_eq_true rfl) _) hf.2⟩) (Nat.le_of_ble_eq_true rfl) (Nat.le_of_ble_eq_true rfl)
end XV5
set_option maxHeartbeats 400000 in
set_option maxRecDepth 100000 in
/-- ENTER by CART -/
theorem c_X4_enterAct (l : Launch) (D : va_G) (A : Nat → Prop) (P : SwP) (F : Nat → Nat → Int32) (B G : Nat → Int32) (dk : List Nat) (i : Nat) (h : Int32) (hlt : l.stackTraces = false) (hO : Ok P F dk) (hz : G 4 = 0 ∨ G 4 = 1) (hn : dk.length < 24) (hi : i < pn P) (hk : pk P i < 9) : Ct l yX4_enterAct (.code yX4_enterAct cX4_enterAct 2 none) ({ frames := 7, cells := 1, slots := 6, locals := 124 }) A [.ref (pa P i), .int h] (fun U => Ev A U ∧ Xp D A P F B G dk U) (ocE (pE (pk P) i h (F, B, G, dk)).1 none) (Xp D A P (pE (pk P) i h (F, B, G, dk)).2.1 (pE (pk P) i h (F, B, G, dk)).2.2.1 (pE (pk P) i h (F, B, G, dk)).2.2.2.1 (pE (pk P) i h (F, B, G, dk)).2.2.2.2) := by
  refine ct_mk (by decide) (Nat.le_of_ble_eq_true rfl) (fun p e s m below meth c ls C hr hlocks hnm htab hP hl => ?_)
  obtain ⟨hE, hw⟩ := hP
  have hS : va_S A s.heap s.heap [] := va_S.rf
  have hl : lv_has ls 2 [(0, .ref (pa P i)), (1, .int h)] := hl
  refine x_begun C hw hi hk tb_111 (Or.inl rfl) tb_38 (lv_at hl 0 rfl) dX4_enterAct_0 dX4_enterAct_1 dX4_enterAct_4 ?_
  refine lv_iconst (v := 0) C.1 C.2.1 dX4_enterAct_7 (by decide) ?_
  refine x_inc C hw hS (j := 0) (by decide) (by decide) dX4_enterAct_8 dX4_enterAct_9 dX4_enterAct_10 dX4_enterAct_11 dX4_enterAct_12 (fun H locs hw hS => ?_)
  refine lv_aload_n C.1 C.2.1 dX4_enterAct_13 rfl (lv_at hl 0 rfl) ?_
  refine ct_ret (v_fit C hw hi hk hO hz tb_640 hl.1 dX4_enterAct_14 ⟨Nat.le_of_ble_eq_true rfl, Nat.le_of_ble_eq_true rfl⟩ (Nat.le_of_ble_eq_true rfl) ⟨Nat.le_of_ble_eq_true rfl, Nat.le_of_ble_eq_true rfl⟩) hS (fun _ h => h) (fun t H locs ht hvm hw _ _ hS => ?_)
  have hw := x_back hw ht hvm
  refine lv_if_ne (tgt := 43) C.1 C.2.1 dX4_enterAct_17 (by decide) (fun h1 => ?_) (fun h1 => ?_)
  · refine lv_aload_n C.1 C.2.1 dX4_enterAct_43 rfl (lv_at hl 0 rfl) ?_
    refine lv_dup C.1 C.2.1 dX4_enterAct_44 rfl ?_
    refine xv_get C hw hi hk 7 (by decide) tb_148 (Or.inl rfl) rfl dX4_enterAct_45 ?_
    refine lv_aload_n C.1 C.2.1 dX4_enterAct_48 rfl (lv_at hl 0 rfl) ?_
    refine lv_iload_n C.1 C.2.1 dX4_enterAct_49 rfl (lv_at hl 1 rfl) ?_
    refine ct_go (v_toll C hw hi hk hlt hE hS tb_474 hl.1 dX4_enterAct_50 ⟨Nat.le_of_ble_eq_true rfl, Nat.le_of_ble_eq_true rfl⟩ (Nat.le_of_ble_eq_true rfl) ⟨Nat.le_of_ble_eq_true rfl, Nat.le_of_ble_eq_true rfl⟩) hS (fun _ h => h) (fun E hoc ce q9 t H locs ht hvm hw _ _ hS hce hcv hcl => ?_) (fun v hoc t H locs ht hvm hw _ _ hS => ?_)
    · obtain ⟨hx, rfl⟩ := tO_r hoc
      have hw := x_back hw ht hvm
      rw [show tG (pk P i) F i G = upd G 6 (G 6 + 1) from if_pos hx] at hw
      rw [pE_x (K := pk P) (h := h) (B := B) (b2i_1 h1) hx]
      exact ct_out (fun x hx => absurd (htab x hx) id) hlocks hce hcv hcl rfl (fun t ht hvm => x_al hw ht hvm) hS (Nat.le_of_ble_eq_true rfl) (Nat.le_of_ble_eq_true rfl)
    · obtain ⟨hx, rfl⟩ := tO_l hoc
      have hw := x_back hw ht hvm
      rw [show tG (pk P i) F i G = G from if_neg (by rw [hx]; decide)] at hw
      rw [pE_0 (K := pk P) (h := h) (B := B) (b2i_1 h1) hx]
      refine lv_iadd C.1 C.2.1 dX4_enterAct_53 ?_
      refine xv_put C hw hS hi hk 7 (by decide) (by decide) tb_148 (Or.inl rfl) dX4_enterAct_54 (fun H locs hw hS => ?_)
      refine lv_aload_n C.1 C.2.1 dX4_enterAct_57 rfl (lv_at hl 0 rfl) ?_
      refine lv_dup C.1 C.2.1 dX4_enterAct_58 rfl ?_
      refine xv_get C hw hi hk 8 (by decide) tb_150 (Or.inl rfl) rfl dX4_enterAct_59 ?_
      refine lv_iconst (v := 1) C.1 C.2.1 dX4_enterAct_62 (by decide) ?_
      refine lv_iadd C.1 C.2.1 dX4_enterAct_63 ?_
      refine xv_put C hw hS hi hk 8 (by decide) (by decide) tb_150 (Or.inl rfl) dX4_enterAct_64 (fun H locs hw hS => ?_)
      refine lv_aload_n C.1 C.2.1 dX4_enterAct_67 rfl (lv_at hl 0 rfl) ?_
      refine lv_iconst (v := 1) C.1 C.2.1 dX4_enterAct_68 (by decide) ?_
      refine xv_put C hw hS hi hk 6 (by decide) (by decide) tb_146 (Or.inl rfl) dX4_enterAct_69 (fun H locs hw hS => ?_)
      refine lv_aload_n C.1 C.2.1 dX4_enterAct_72 rfl (lv_at hl 0 rfl) ?_
      refine xv_get C hw hi hk 0 (by decide) tb_111 (Or.inl rfl) rfl dX4_enterAct_73 ?_
      refine lv_aload_n C.1 C.2.1 dX4_enterAct_76 rfl (lv_at hl 0 rfl) ?_
      refine ct_ret (ct_V0 C (c_X0_takeOn l D A P _ _ _ _ (((hO.uf (by decide)).uf (by decide)).uf (by decide)) hn i hi hk) Xg_bl (Or.inl rfl) tb_660 tb_2 ⟨Nat.le_of_ble_eq_true rfl, Nat.le_of_ble_eq_true rfl⟩ tb_657 ⟨by decide, by decide⟩ tb_659 tb_658 (x_recvB hw) (fun U hU hW => ⟨hE.2.1.moved hW.alike, x_post hw hU hW⟩) (sig_code (C.2.2.2.2 _ tb_660)) (by show _ = some 1; decide +kernel) hl.1 rfl (Nat.le_of_ble_eq_true rfl) dX4_enterAct_77 ⟨Nat.le_of_ble_eq_true rfl, Nat.le_of_ble_eq_true rfl⟩) hS (fun _ h => h) (fun t H locs ht hvm hw _ _ hS => ?_)
      have hw := x_back hw ht hvm
      rw [uF_ne (F := F) (b := 8) (v := 7) (by decide)] at hw
      exact ct_v C hr hlocks rfl (fun t ht hW => x_post hw ht hW) hS (Nat.le_of_ble_eq_true rfl) (Nat.le_of_ble_eq_true rfl) dX4_enterAct_80
  · refine lv_aload_n C.1 C.2.1 dX4_enterAct_20 rfl (lv_at hl 0 rfl) ?_
    refine xv_get C hw hi hk 0 (by decide) tb_111 (Or.inl rfl) rfl dX4_enterAct_21 ?_
    refine lv_dup C.1 C.2.1 dX4_enterAct_24 rfl ?_
    refine xb_get C hw 5 (by decide) tb_59 rfl dX4_enterAct_25 ?_
    refine lv_iconst (v := 1) C.1 C.2.1 dX4_enterAct_28 (by decide) ?_
    refine lv_iadd C.1 C.2.1 dX4_enterAct_29 ?_
    refine xb_puti C hw hS 5 (by decide) tb_59 dX4_enterAct_30 (fun H locs hw hS => ?_)
    rw [pE_s (K := pk P) (h := h) (B := B) (b2i_0 h1)]
    exact x_thr4 C hlt hE hlocks htab hS hl.1 dX4_enterAct_33 dX4_enterAct_36 dX4_enterAct_37 dX4_enterAct_39 dX4_enterAct_42 ⟨Nat.le_of_ble_eq_true rfl, Nat.le_of_ble_eq_true rfl, Nat.le_of_ble_eq_true rfl, Nat.le_of_ble_eq_true rfl⟩ (Nat.le_of_ble_eq_true rfl) (Nat.le_of_ble_eq_true rfl) rfl (fun t hvm hk => x_grow hw hvm hk)
set_option maxHeartbeats 400000 in
set_option maxRecDepth 100000 in
/-- CAB: METER is 1 more, then UNDER -/
theorem c_X2_enterAct (l : Launch) (D : va_G) (A : Nat → Prop) (P : SwP) (F : Nat → Nat → Int32) (B G : Nat → Int32) (dk : List Nat) (i : Nat) (h : Int32) (hlt : l.stackTraces = false) (hO : Ok P F dk) (hz : G 4 = 0 ∨ G 4 = 1) (hn : dk.length < 24) (hi : i < pn P) (hk : pk P i < 9) : Ct l yX2_enterAct (.code yX2_enterAct cX2_enterAct 2 none) ({ frames := 8, cells := 1, slots := 6, locals := 145 }) A [.ref (pa P i), .int h] (fun U => Ev A U ∧ Xp D A P F B G dk U) (ocE (pE (pk P) i h (uF F i 9 (F i 9 + 1), iB B 3, G, dk)).1 none) (Xp D A P (pE (pk P) i h (uF F i 9 (F i 9 + 1), iB B 3, G, dk)).2.1 (pE (pk P) i h (uF F i 9 (F i 9 + 1), iB B 3, G, dk)).2.2.1 (pE (pk P) i h (uF F i 9 (F i 9 + 1), iB B 3, G, dk)).2.2.2.1 (pE (pk P) i h (uF F i 9 (F i 9 + 1), iB B 3, G, dk)).2.2.2.2) := by
  refine ct_mk (by decide) (Nat.le_of_ble_eq_true rfl) (fun p e s m below meth c ls C hr hlocks hnm htab hP hl => ?_)
  obtain ⟨hE, hw⟩ := hP
  have hS : va_S A s.heap s.heap [] := va_S.rf
  have hl : lv_has ls 2 [(0, .ref (pa P i)), (1, .int h)] := hl
  refine x_begun C hw hi hk tb_118 (Or.inr tb_119) tb_42 (lv_at hl 0 rfl) dX2_enterAct_0 dX2_enterAct_1 dX2_enterAct_4 ?_
  refine lv_iconst (v := 3) C.1 C.2.1 dX2_enterAct_7 (by decide) ?_
  refine x_inc C hw hS (j := 3) (by decide) (by decide) dX2_enterAct_8 dX2_enterAct_9 dX2_enterAct_10 dX2_enterAct_11 dX2_enterAct_12 (fun H locs hw hS => ?_)
  refine lv_aload_n C.1 C.2.1 dX2_enterAct_13 rfl (lv_at hl 0 rfl) ?_
  refine lv_dup C.1 C.2.1 dX2_enterAct_14 rfl ?_
  refine xv_get C hw hi hk 9 (by decide) tb_153 (Or.inr tb_154) rfl dX2_enterAct_15 ?_
  refine lv_iconst (v := 1) C.1 C.2.1 dX2_enterAct_18 (by decide) ?_
  refine lv_iadd C.1 C.2.1 dX2_enterAct_19 ?_
  refine xv_put C hw hS hi hk 9 (by decide) (by decide) tb_153 (Or.inr tb_154) dX2_enterAct_20 (fun H locs hw hS => ?_)
  refine lv_aload_n C.1 C.2.1 dX2_enterAct_23 rfl (lv_at hl 0 rfl) ?_
  refine lv_iload_n C.1 C.2.1 dX2_enterAct_24 rfl (lv_at hl 1 rfl) ?_
  refine ct_go (x_SU C hw hi hk (c_X4_enterAct l D A P _ _ _ _ i h hlt (hO.uf (by decide)) hz hn hi hk) Xe_bl (fun U hU hW => ⟨hE.go hS hU hW, x_post hw hU hW⟩) tb_639 tb_4 tb_608 tb_621 tb_622 ⟨rfl, rfl⟩ tb_210 (by decide) (sup2 C hw tb_193 tb_176) (by show _ = some 1; decide +kernel) hl.1 dX2_enterAct_25 ⟨Nat.le_of_ble_eq_true rfl, Nat.le_of_ble_eq_true rfl⟩ rfl (Nat.le_of_ble_eq_true rfl) ⟨Nat.le_of_ble_eq_true rfl, Nat.le_of_ble_eq_true rfl⟩) hS (fun _ h => h) (fun E hoc ce q9 t H locs ht hvm hw _ _ hS hce hcv hcl => ?_) (fun v hoc t H locs ht hvm hw _ _ hS => ?_)
  · have hw := x_back hw ht hvm
    exact ct_out (fun x hx => absurd (htab x hx) id) hlocks hce hcv hcl hoc (fun t ht hvm => x_al hw ht hvm) hS (Nat.le_of_ble_eq_true rfl) (Nat.le_of_ble_eq_true rfl)
  · have hw := x_back hw ht hvm
    obtain ⟨h0, rfl⟩ := ocE_l hoc
    exact ct_v C hr hlocks (ocE_0 h0) (fun t ht hW => x_post hw ht hW) hS (Nat.le_of_ble_eq_true rfl) (Nat.le_of_ble_eq_true rfl) dX2_enterAct_28
set_option maxHeartbeats 400000 in
set_option maxRecDepth 100000 in
/-- BUS: LOAD is 40 more (5000 at most), then UNDER -/
theorem c_X1_enterAct (l : Launch) (D : va_G) (A : Nat → Prop) (P : SwP) (F : Nat → Nat → Int32) (B G : Nat → Int32) (dk : List Nat) (i : Nat) (h : Int32) (hlt : l.stackTraces = false) (hO : Ok P F dk) (hz : G 4 = 0 ∨ G 4 = 1) (hn : dk.length < 24) (hi : i < pn P) (hk : pk P i < 9) : Ct l yX1_enterAct (.code yX1_enterAct cX1_enterAct 2 none) ({ frames := 8, cells := 1, slots := 6, locals := 145 }) A [.ref (pa P i), .int h] (fun U => Ev A U ∧ Xp D A P F B G dk U) (ocE (pE (pk P) i h (uF F i 5 (mn (F i 5 + 40) 5000), iB B 6, G, dk)).1 none) (Xp D A P (pE (pk P) i h (uF F i 5 (mn (F i 5 + 40) 5000), iB B 6, G, dk)).2.1 (pE (pk P) i h (uF F i 5 (mn (F i 5 + 40) 5000), iB B 6, G, dk)).2.2.1 (pE (pk P) i h (uF F i 5 (mn (F i 5 + 40) 5000), iB B 6, G, dk)).2.2.2.1 (pE (pk P) i h (uF F i 5 (mn (F i 5 + 40) 5000), iB B 6, G, dk)).2.2.2.2) := by
  refine ct_mk (by decide) (Nat.le_of_ble_eq_true rfl) (fun p e s m below meth c ls C hr hlocks hnm htab hP hl => ?_)
  obtain ⟨hE, hw⟩ := hP
  have hS : va_S A s.heap s.heap [] := va_S.rf
  have hl : lv_has ls 2 [(0, .ref (pa P i)), (1, .int h)] := hl
  refine x_begun C hw hi hk tb_124 (Or.inr tb_125) tb_45 (lv_at hl 0 rfl) dX1_enterAct_0 dX1_enterAct_1 dX1_enterAct_4 ?_
  refine lv_bipush (v := 6) C.1 C.2.1 dX1_enterAct_7 (by decide) ?_
  refine x_inc C hw hS (j := 6) (by decide) (by decide) dX1_enterAct_9 dX1_enterAct_10 dX1_enterAct_11 dX1_enterAct_12 dX1_enterAct_13 (fun H locs hw hS => ?_)
  refine lv_aload_n C.1 C.2.1 dX1_enterAct_14 rfl (lv_at hl 0 rfl) ?_
  refine lv_aload_n C.1 C.2.1 dX1_enterAct_15 rfl (lv_at hl 0 rfl) ?_
  refine xv_get C hw hi hk 5 (by decide) tb_139 (Or.inr tb_140) rfl dX1_enterAct_16 ?_
  refine lv_bipush (v := 40) C.1 C.2.1 dX1_enterAct_19 (by decide) ?_
  refine lv_iadd C.1 C.2.1 dX1_enterAct_21 ?_
  refine lv_sipush (v := 5000) C.1 C.2.1 dX1_enterAct_22 (by decide) ?_
  refine va_mmin C.1 C.2.1 (by rw [C.2.2.1]; exact hl.1.symm) C.2.2.2.1 (C.2.2.2.2 _ tb_614) (C.2.2.2.2 _ tb_404) (C.2.2.2.2 _ tb_18) (C.2.2.2.2 _ h_mmin) (Nat.le_of_ble_eq_true rfl) (Nat.le_of_ble_eq_true rfl) (Nat.le_of_ble_eq_true rfl) (Nat.le_of_ble_eq_true rfl) dX1_enterAct_25 ?_
  refine xv_put C hw hS hi hk 5 (by decide) (by decide) tb_139 (Or.inr tb_140) dX1_enterAct_28 (fun H locs hw hS => ?_)
  refine lv_aload_n C.1 C.2.1 dX1_enterAct_31 rfl (lv_at hl 0 rfl) ?_
  refine lv_iload_n C.1 C.2.1 dX1_enterAct_32 rfl (lv_at hl 1 rfl) ?_
  refine ct_go (x_SU C hw hi hk (c_X4_enterAct l D A P _ _ _ _ i h hlt (hO.uf (by decide)) hz hn hi hk) Xe_bl (fun U hU hW => ⟨hE.go hS hU hW, x_post hw hU hW⟩) tb_639 tb_4 tb_608 tb_615 tb_616 ⟨rfl, rfl⟩ tb_261 (by decide) (sup2 C hw tb_227 tb_176) (by show _ = some 1; decide +kernel) hl.1 dX1_enterAct_33 ⟨Nat.le_of_ble_eq_true rfl, Nat.le_of_ble_eq_true rfl⟩ rfl (Nat.le_of_ble_eq_true rfl) ⟨Nat.le_of_ble_eq_true rfl, Nat.le_of_ble_eq_true rfl⟩) hS (fun _ h => h) (fun E hoc ce q9 t H locs ht hvm hw _ _ hS hce hcv hcl => ?_) (fun v hoc t H locs ht hvm hw _ _ hS => ?_)
  · have hw := x_back hw ht hvm
    exact ct_out (fun x hx => absurd (htab x hx) id) hlocks hce hcv hcl hoc (fun t ht hvm => x_al hw ht hvm) hS (Nat.le_of_ble_eq_true rfl) (Nat.le_of_ble_eq_true rfl)
  · have hw := x_back hw ht hvm
    obtain ⟨h0, rfl⟩ := ocE_l hoc
    exact ct_v C hr hlocks (ocE_0 h0) (fun t ht hW => x_post hw ht hW) hS (Nat.le_of_ble_eq_true rfl) (Nat.le_of_ble_eq_true rfl) dX1_enterAct_36
set_option maxHeartbeats 400000 in
set_option maxRecDepth 100000 in
/-- TANKER: UNDER, then LIMIT is 100 less (not below 0) -/
theorem c_X8_enterAct (l : Launch) (D : va_G) (A : Nat → Prop) (P : SwP) (F : Nat → Nat → Int32) (B G : Nat → Int32) (dk : List Nat) (i : Nat) (h : Int32) (hlt : l.stackTraces = false) (hO : Ok P F dk) (hz : G 4 = 0 ∨ G 4 = 1) (hn : dk.length < 24) (hi : i < pn P) (hk : pk P i < 9) : Ct l yX8_enterAct (.code yX8_enterAct cX8_enterAct 2 none) ({ frames := 8, cells := 1, slots := 6, locals := 145 }) A [.ref (pa P i), .int h] (fun U => Ev A U ∧ Xp D A P F B G dk U) (ocE (eT (pE (pk P) i h (F, iB B 5, G, dk))).1 none) (Xp D A P (eT (pE (pk P) i h (F, iB B 5, G, dk))).2.1 (eT (pE (pk P) i h (F, iB B 5, G, dk))).2.2.1 (eT (pE (pk P) i h (F, iB B 5, G, dk))).2.2.2.1 (eT (pE (pk P) i h (F, iB B 5, G, dk))).2.2.2.2) := by
  refine ct_mk (by decide) (Nat.le_of_ble_eq_true rfl) (fun p e s m below meth c ls C hr hlocks hnm htab hP hl => ?_)
  obtain ⟨hE, hw⟩ := hP
  have hS : va_S A s.heap s.heap [] := va_S.rf
  have hl : lv_has ls 2 [(0, .ref (pa P i)), (1, .int h)] := hl
  refine x_begun C hw hi hk tb_116 (Or.inr tb_117) tb_41 (lv_at hl 0 rfl) dX8_enterAct_0 dX8_enterAct_1 dX8_enterAct_4 ?_
  refine lv_iconst (v := 5) C.1 C.2.1 dX8_enterAct_7 (by decide) ?_
  refine x_inc C hw hS (j := 5) (by decide) (by decide) dX8_enterAct_8 dX8_enterAct_9 dX8_enterAct_10 dX8_enterAct_11 dX8_enterAct_12 (fun H locs hw hS => ?_)
  refine lv_aload_n C.1 C.2.1 dX8_enterAct_13 rfl (lv_at hl 0 rfl) ?_
  refine lv_iload_n C.1 C.2.1 dX8_enterAct_14 rfl (lv_at hl 1 rfl) ?_
  refine ct_go (x_SU C hw hi hk (c_X4_enterAct l D A P _ _ _ _ i h hlt hO hz hn hi hk) Xe_bl (fun U hU hW => ⟨hE.go hS hU hW, x_post hw hU hW⟩) tb_639 tb_4 tb_608 tb_634 tb_616 ⟨rfl, rfl⟩ tb_244 (by decide) (sup2 C hw tb_227 tb_176) (by show _ = some 1; decide +kernel) hl.1 dX8_enterAct_15 ⟨Nat.le_of_ble_eq_true rfl, Nat.le_of_ble_eq_true rfl⟩ rfl (Nat.le_of_ble_eq_true rfl) ⟨Nat.le_of_ble_eq_true rfl, Nat.le_of_ble_eq_true rfl⟩) hS (fun _ h => h) (fun E hoc ce q9 t H locs ht hvm hw _ _ hS hce hcv hcl => ?_) (fun v hoc t H locs ht hvm hw _ _ hS => ?_)
  · have hw := x_back hw ht hvm
    have hne : ¬ (pE (pk P) i h (F, iB B 5, G, dk)).1 = 0 := fun q => by rw [ocE_0 q] at hoc; cases hoc
    rw [show eT (pE (pk P) i h (F, iB B 5, G, dk)) = (pE (pk P) i h (F, iB B 5, G, dk)) from if_neg hne]
    exact ct_out (fun x hx => absurd (htab x hx) id) hlocks hce hcv hcl hoc (fun t ht hvm => x_al hw ht hvm) hS (Nat.le_of_ble_eq_true rfl) (Nat.le_of_ble_eq_true rfl)
  · have hw := x_back hw ht hvm
    obtain ⟨h0, rfl⟩ := ocE_l hoc
    rw [show eT (pE (pk P) i h (F, iB B 5, G, dk)) = (0, (pE (pk P) i h (F, iB B 5, G, dk)).2.1, (pE (pk P) i h (F, iB B 5, G, dk)).2.2.1, upd (pE (pk P) i h (F, iB B 5, G, dk)).2.2.2.1 3 (mx ((pE (pk P) i h (F, iB B 5, G, dk)).2.2.2.1 3 - 100) 0), (pE (pk P) i h (F, iB B 5, G, dk)).2.2.2.2) from if_pos h0]
    refine lv_aload_n C.1 C.2.1 dX8_enterAct_18 rfl (lv_at hl 0 rfl) ?_
    refine xv_get C hw hi hk 0 (by decide) tb_116 (Or.inr tb_117) rfl dX8_enterAct_19 ?_
    refine lv_aload_n C.1 C.2.1 dX8_enterAct_22 rfl (lv_at hl 0 rfl) ?_
    refine xv_get C hw hi hk 0 (by decide) tb_116 (Or.inr tb_117) rfl dX8_enterAct_23 ?_
    refine xb_get C hw 3 (by decide) tb_52 rfl dX8_enterAct_26 ?_
    refine lv_bipush (v := 100) C.1 C.2.1 dX8_enterAct_29 (by decide) ?_
    refine lv_isub C.1 C.2.1 dX8_enterAct_31 ?_
    refine lv_iconst (v := 0) C.1 C.2.1 dX8_enterAct_32 (by decide) ?_
    refine va_mmax C.1 C.2.1 (by rw [C.2.2.1]; exact hl.1.symm) C.2.2.2.1 (C.2.2.2.2 _ tb_635) (C.2.2.2.2 _ tb_636) (C.2.2.2.2 _ tb_18) (C.2.2.2.2 _ h_mmax) (Nat.le_of_ble_eq_true rfl) (Nat.le_of_ble_eq_true rfl) (Nat.le_of_ble_eq_true rfl) (Nat.le_of_ble_eq_true rfl) dX8_enterAct_33 ?_
    refine xb_puti C hw hS 3 (by decide) tb_52 dX8_enterAct_36 (fun H locs hw hS => ?_)
    exact ct_v C hr hlocks rfl (fun t ht hW => x_post hw ht hW) hS (Nat.le_of_ble_eq_true rfl) (Nat.le_of_ble_eq_true rfl) dX8_enterAct_39
set_option maxHeartbeats 400000 in
set_option maxRecDepth 100000 in
/-- CYCLE: UNDER; if it is STOPPED by that, UNDER once more -/
theorem c_X5_enterAct (l : Launch) (D : va_G) (A : Nat → Prop) (P : SwP) (F : Nat → Nat → Int32) (B G : Nat → Int32) (dk : List Nat) (i : Nat) (h : Int32) (hlt : l.stackTraces = false) (hO : Ok P F dk) (hz : G 4 = 0 ∨ G 4 = 1) (hn : dk.length < 24) (hi : i < pn P) (hk : pk P i < 9) : Ct l yX5_enterAct (.codeWith yX5_enterAct cX5_enterAct 4 none [((16 : Nat), (21 : Nat), (24 : Nat), (43 : Nat))]) ({ frames := 8, cells := 2, slots := 12, locals := 145 }) A [.ref (pa P i), .int h] (fun U => Ev A U ∧ Xp D A P F B G dk U) (ocE (eC (pk P) i h (pE (pk P) i h (F, iB B 8, G, dk))).1 none) (Xp D A P (eC (pk P) i h (pE (pk P) i h (F, iB B 8, G, dk))).2.1 (eC (pk P) i h (pE (pk P) i h (F, iB B 8, G, dk))).2.2.1 (eC (pk P) i h (pE (pk P) i h (F, iB B 8, G, dk))).2.2.2.1 (eC (pk P) i h (pE (pk P) i h (F, iB B 8, G, dk))).2.2.2.2) := by
  refine ct_mkH (by decide) (Nat.le_of_ble_eq_true rfl) (fun p e s m below meth c ls C hr hlocks htab hP hl => ?_)
  obtain ⟨hE, hw⟩ := hP
  have hS : va_S A s.heap s.heap [] := va_S.rf
  have hl : lv_has ls 4 [(0, .ref (pa P i)), (1, .int h)] := hl
  refine x_begun C hw hi hk tb_122 (Or.inr tb_123) tb_44 (lv_at hl 0 rfl) dX5_enterAct_0 dX5_enterAct_1 dX5_enterAct_4 ?_
  refine lv_bipush (v := 8) C.1 C.2.1 dX5_enterAct_7 (by decide) ?_
  refine x_inc C hw hS (j := 8) (by decide) (by decide) dX5_enterAct_9 dX5_enterAct_10 dX5_enterAct_11 dX5_enterAct_12 dX5_enterAct_13 (fun H locs hw hS => ?_)
  refine lv_iconst (v := 0) C.1 C.2.1 dX5_enterAct_14 (by decide) ?_
  refine lv_istore_n (lv' := [(2, .int (0)), (0, .ref (pa P i)), (1, .int (h))]) C.1 C.2.1 dX5_enterAct_15 rfl hl (by decide) rfl (fun ls hl => ?_)
  refine lv_aload_n C.1 C.2.1 dX5_enterAct_16 rfl (lv_at hl 1 rfl) ?_
  refine lv_iload_n C.1 C.2.1 dX5_enterAct_17 rfl (lv_at hl 2 rfl) ?_
  refine ct_go (x_SU C hw hi hk (c_X4_enterAct l D A P _ _ _ _ i h hlt hO hz hn hi hk) Xe_bl (fun U hU hW => ⟨hE.go hS hU hW, x_post hw hU hW⟩) tb_639 tb_4 tb_608 tb_628 tb_610 ⟨rfl, rfl⟩ tb_295 (by decide) sup0 (by show _ = some 1; decide +kernel) hl.1 dX5_enterAct_18 ⟨Nat.le_of_ble_eq_true rfl, Nat.le_of_ble_eq_true rfl⟩ rfl (Nat.le_of_ble_eq_true rfl) ⟨Nat.le_of_ble_eq_true rfl, Nat.le_of_ble_eq_true rfl⟩) hS (fun _ h => h) (fun E hoc ce q9 t H locs ht hvm hw _ _ hS hce hcv hcl => ?_) (fun v hoc t H locs ht hvm hw _ _ hS => ?_)
  · have hw := x_back hw ht hvm
    rcases ocE_r hoc with ⟨hn1, rfl⟩ | ⟨hn0, hn1, rfl⟩
    · rw [show eC (pk P) i h (pE (pk P) i h (F, iB B 8, G, dk)) = pE (pk P) i h (pE (pk P) i h (F, iB B 8, G, dk)).2 from if_pos hn1]
      have hpe := pE_1 hn1
      rw [hpe] at hw ⊢
      refine vx_catch C.2.2.2.1 [] ⟨16, 21, 24, 43⟩ [] (by rw [htab]; rfl) (fun z hz => by cases hz) (by decide) (by decide) (C.2.2.2.2 _ tb_627) (va_Nw.use rfl hE.2.2.1.1) hce hcv hcl ?_
      refine lv_astore_n (lv' := [(3, .ref (q9)), (2, .int (0)), (0, .ref (pa P i)), (1, .int (h))]) C.1 C.2.1 dX5_enterAct_24 rfl hl (by decide) rfl (fun ls hl => ?_)
      refine lv_iconst (v := 1) C.1 C.2.1 dX5_enterAct_25 (by decide) ?_
      refine lv_istore_n (lv' := [(2, .int (1)), (3, .ref (q9)), (0, .ref (pa P i)), (1, .int (h))]) C.1 C.2.1 dX5_enterAct_26 rfl hl (by decide) rfl (fun ls hl => ?_)
      refine lv_iload_n C.1 C.2.1 dX5_enterAct_27 rfl (lv_at hl 0 rfl) ?_
      refine lv_if_eq (tgt := 36) C.1 C.2.1 dX5_enterAct_28 (by decide) (fun h1 => absurd h1 (by decide)) (fun h1 => ?_)
      refine lv_aload_n C.1 C.2.1 dX5_enterAct_31 rfl (lv_at hl 2 rfl) ?_
      refine lv_iload_n C.1 C.2.1 dX5_enterAct_32 rfl (lv_at hl 3 rfl) ?_
      refine ct_go (x_SU C hw hi hk (c_X4_enterAct l D A P _ _ _ _ i h hlt hO (show upd G 5 (G 5 + 1) 4 = 0 ∨ upd G 5 (G 5 + 1) 4 = 1 from hz) hn hi hk) Xe_bl (fun U hU hW => ⟨hE.go hS hU hW, x_post hw hU hW⟩) tb_639 tb_4 tb_608 tb_628 tb_610 ⟨rfl, rfl⟩ tb_295 (by decide) sup0 (by show _ = some 1; decide +kernel) hl.1 dX5_enterAct_33 ⟨Nat.le_of_ble_eq_true rfl, Nat.le_of_ble_eq_true rfl⟩ rfl (Nat.le_of_ble_eq_true rfl) ⟨Nat.le_of_ble_eq_true rfl, Nat.le_of_ble_eq_true rfl⟩) hS (fun _ h => h) (fun E hoc ce q9 t H locs ht hvm hw _ _ hS hce hcv hcl => ?_) (fun v hoc t H locs ht hvm hw _ _ hS => ?_)
      · have hw := x_back hw ht hvm
        exact ct_out (fun x hx => by rw [htab] at hx; rcases List.mem_singleton.mp hx with rfl; exact covers_f (by decide)) hlocks hce hcv hcl hoc (fun t ht hvm => x_al hw ht hvm) hS (Nat.le_of_ble_eq_true rfl) (Nat.le_of_ble_eq_true rfl)
      · have hw := x_back hw ht hvm
        obtain ⟨h0, rfl⟩ := ocE_l hoc
        exact ct_v C hr hlocks (ocE_0 h0) (fun t ht hW => x_post hw ht hW) hS (Nat.le_of_ble_eq_true rfl) (Nat.le_of_ble_eq_true rfl) dX5_enterAct_36
    · rw [show eC (pk P) i h (pE (pk P) i h (F, iB B 8, G, dk)) = (pE (pk P) i h (F, iB B 8, G, dk)) from if_neg hn1]
      exact vx_outP C.2.2.2.1 hlocks (fun z hz => by rw [htab] at hz; rcases List.mem_singleton.mp hz with rfl; exact Or.inr ⟨by decide, _, C.2.2.2.2 _ tb_627, hE.2.2.1.2.2⟩) hce hcv hcl (fun t ht hvm => ⟨hoc, x_al hw ht hvm, hS.F ht⟩) hS.2.2 (Nat.le_of_ble_eq_true rfl) (Nat.le_of_ble_eq_true rfl)
  · have hw := x_back hw ht hvm
    obtain ⟨h0, rfl⟩ := ocE_l hoc
    rw [show eC (pk P) i h (pE (pk P) i h (F, iB B 8, G, dk)) = (pE (pk P) i h (F, iB B 8, G, dk)) from if_neg (by rw [h0]; decide)]
    refine lv_goto (tgt := 27) C.1 C.2.1 dX5_enterAct_21 (by decide) ?_
    refine lv_iload_n C.1 C.2.1 dX5_enterAct_27 rfl (lv_at hl 0 rfl) ?_
    refine lv_if_eq (tgt := 36) C.1 C.2.1 dX5_enterAct_28 (by decide) (fun h1 => ?_) (fun h1 => absurd rfl h1)
    exact ct_v C hr hlocks (ocE_0 h0) (fun t ht hW => x_post hw ht hW) hS (Nat.le_of_ble_eq_true rfl) (Nat.le_of_ble_eq_true rfl) dX5_enterAct_36
section XV6
variable {p : Program} {l : Launch} {e : Env} {R : Room} {s : State} {m : MethodId} {args : Array Value} {below : List Frame} {meth : Method} {c : Code} {H : Heap} {locs : List Loc} {cells slots : Nat}
variable {cc : ByteArray} {nL index pc : Nat} {ls : Array Slot} {rest : List Value} {own : String} {D : va_G} {A : Nat → Prop} {P : SwP} {F : Nat → Nat → Int32} {B G : Nat → Int32} {dk : List Nat} {i : Nat}

set_option maxHeartbeats 400000 in
set_option maxRecDepth 100000 in
theorem v_enter (C : CallFix p m c cc nL s args wB own) (hw : XwR D A P F B G (nI dk.length) (dfd P dk) s H) (hi : i < pn P) (hk : pk P i < 9) {h : Int32} (hlt : l.stackTraces = false) (hE : Ev A s) (hS : va_S A s.heap H locs) (hO : Ok P F dk) (hz : G 4 = 0 ∨ G 4 = 1) (hn : dk.length < 24) (h1 : Cond.methodLink own index ⟨"SwingBridge$Cart", "enterAct", "(I)V"⟩ ∈ wB) (hsize : ls.size = nL) (hdg : decode cc pc = .ok (.invokevirtual index, 3)) (hR : 9 ≤ R.frames ∧ 168 ≤ R.locals) (hW : (rest.map fun v => v.category).sum ≤ 8) (hf : cells + 2 ≤ R.cells ∧ slots + 12 ≤ R.slots) :
    CtR p l e R s m args below meth c H locs cells slots (F0 m pc ls (.int h :: .ref (pa P i) :: rest)) rest ({ frames := 8, cells := 2, slots := 12, locals := 145 }) A (ocE (eN (pk P) i h (F, B, G, dk)).1 none) (Xp D A P (eN (pk P) i h (F, B, G, dk)).2.1 (eN (pk P) i h (F, B, G, dk)).2.2.1 (eN (pk P) i h (F, B, G, dk)).2.2.2.1 (eN (pk P) i h (F, B, G, dk)).2.2.2.2) := by
  have hx0 : va_Decl s ⟨"SwingBridge$Cart", "enterAct", "(I)V"⟩ := va_Decl.of (C.2.2.2.2 _ tb_608) (C.2.2.2.2 _ tb_639)
  rcases (show pk P i = 0 ∨ pk P i = 1 ∨ pk P i = 2 ∨ pk P i = 3 ∨ pk P i = 4 ∨ pk P i = 5 ∨ pk P i = 6 ∨ pk P i = 7 ∨ pk P i = 8 by omega) with e0 | e0 | e0 | e0 | e0 | e0 | e0 | e0 | e0
  · rw [show eN (pk P) i h (F, B, G, dk) = pE (pk P) i h (F, B, G, dk) by unfold eN; rw [if_neg (by rw [e0]; decide), if_neg (by rw [e0]; decide), if_neg (by rw [e0]; decide), if_neg (by rw [e0]; decide)]]
    exact ctR_wide (ct_V C (c_X4_enterAct l D A P F B G dk i h hlt hO hz hn hi hk) Xe_bl (Or.inl rfl) tb_639 tb_4 ⟨Nat.le_trans (Nat.le_of_ble_eq_true rfl) hR.1, Nat.le_trans (Nat.le_of_ble_eq_true rfl) hR.2⟩ h1 tb_610 hx0 ⟨by decide, by decide⟩ (CN := cN (pk P i)) (by rw [e0]; exact tb_609) tb_608 (x_recv hw hi hk) (fun U hU hW => ⟨hE.go hS hU hW, x_post hw hU hW⟩) (by show _ = some 1; decide +kernel) hsize rfl hW hdg ⟨Nat.le_trans (Nat.add_le_add_left (Nat.le_of_ble_eq_true rfl) _) hf.1, Nat.le_trans (Nat.add_le_add_left (Nat.le_of_ble_eq_true rfl) _) hf.2⟩) (Nat.le_of_ble_eq_true rfl) (Nat.le_of_ble_eq_true rfl)
  · rw [show eN (pk P) i h (F, B, G, dk) = pE (pk P) i h (F, B, G, dk) by unfold eN; rw [if_neg (by rw [e0]; decide), if_neg (by rw [e0]; decide), if_neg (by rw [e0]; decide), if_neg (by rw [e0]; decide)]]
    exact ctR_wide (ct_V C (c_X4_enterAct l D A P F B G dk i h hlt hO hz hn hi hk) Xe_bl (Or.inl rfl) tb_639 tb_4 ⟨Nat.le_trans (Nat.le_of_ble_eq_true rfl) hR.1, Nat.le_trans (Nat.le_of_ble_eq_true rfl) hR.2⟩ h1 tb_610 hx0 ⟨by decide, by decide⟩ (CN := cN (pk P i)) (by rw [e0]; exact tb_638) tb_608 (x_recv hw hi hk) (fun U hU hW => ⟨hE.go hS hU hW, x_post hw hU hW⟩) (by show _ = some 1; decide +kernel) hsize rfl hW hdg ⟨Nat.le_trans (Nat.add_le_add_left (Nat.le_of_ble_eq_true rfl) _) hf.1, Nat.le_trans (Nat.add_le_add_left (Nat.le_of_ble_eq_true rfl) _) hf.2⟩) (Nat.le_of_ble_eq_true rfl) (Nat.le_of_ble_eq_true rfl)
  · rw [show eN (pk P) i h (F, B, G, dk) = pE (pk P) i h (F, B, G, dk) by unfold eN; rw [if_neg (by rw [e0]; decide), if_neg (by rw [e0]; decide), if_neg (by rw [e0]; decide), if_neg (by rw [e0]; decide)]]
    exact ctR_wide (ct_V C (c_X4_enterAct l D A P F B G dk i h hlt hO hz hn hi hk) Xe_bl (Or.inl rfl) tb_639 tb_4 ⟨Nat.le_trans (Nat.le_of_ble_eq_true rfl) hR.1, Nat.le_trans (Nat.le_of_ble_eq_true rfl) hR.2⟩ h1 tb_610 hx0 ⟨by decide, by decide⟩ (CN := cN (pk P i)) (by rw [e0]; exact tb_623) tb_608 (x_recv hw hi hk) (fun U hU hW => ⟨hE.go hS hU hW, x_post hw hU hW⟩) (by show _ = some 1; decide +kernel) hsize rfl hW hdg ⟨Nat.le_trans (Nat.add_le_add_left (Nat.le_of_ble_eq_true rfl) _) hf.1, Nat.le_trans (Nat.add_le_add_left (Nat.le_of_ble_eq_true rfl) _) hf.2⟩) (Nat.le_of_ble_eq_true rfl) (Nat.le_of_ble_eq_true rfl)
  · rw [show eN (pk P) i h (F, B, G, dk) = pE (pk P) i h (uF F i 9 (F i 9 + 1), iB B 3, G, dk) by unfold eN; rw [if_pos e0]]
    exact ctR_wide (ct_V C (c_X2_enterAct l D A P F B G dk i h hlt hO hz hn hi hk) Xe_bl (Or.inl rfl) tb_620 tb_7 ⟨Nat.le_trans (Nat.le_of_ble_eq_true rfl) hR.1, Nat.le_trans (Nat.le_of_ble_eq_true rfl) hR.2⟩ h1 tb_610 hx0 ⟨by decide, by decide⟩ (CN := cN (pk P i)) (by rw [e0]; exact tb_618) tb_619 (x_recv hw hi hk) (fun U hU hW => ⟨hE.go hS hU hW, x_post hw hU hW⟩) (by show _ = some 1; decide +kernel) hsize rfl hW hdg ⟨Nat.le_trans (Nat.add_le_add_left (Nat.le_of_ble_eq_true rfl) _) hf.1, Nat.le_trans (Nat.add_le_add_left (Nat.le_of_ble_eq_true rfl) _) hf.2⟩) (Nat.le_of_ble_eq_true rfl) (Nat.le_of_ble_eq_true rfl)
  · rw [show eN (pk P) i h (F, B, G, dk) = pE (pk P) i h (F, B, G, dk) by unfold eN; rw [if_neg (by rw [e0]; decide), if_neg (by rw [e0]; decide), if_neg (by rw [e0]; decide), if_neg (by rw [e0]; decide)]]
    exact ctR_wide (ct_V C (c_X4_enterAct l D A P F B G dk i h hlt hO hz hn hi hk) Xe_bl (Or.inl rfl) tb_639 tb_4 ⟨Nat.le_trans (Nat.le_of_ble_eq_true rfl) hR.1, Nat.le_trans (Nat.le_of_ble_eq_true rfl) hR.2⟩ h1 tb_610 hx0 ⟨by decide, by decide⟩ (CN := cN (pk P i)) (by rw [e0]; exact tb_630) tb_608 (x_recv hw hi hk) (fun U hU hW => ⟨hE.go hS hU hW, x_post hw hU hW⟩) (by show _ = some 1; decide +kernel) hsize rfl hW hdg ⟨Nat.le_trans (Nat.add_le_add_left (Nat.le_of_ble_eq_true rfl) _) hf.1, Nat.le_trans (Nat.add_le_add_left (Nat.le_of_ble_eq_true rfl) _) hf.2⟩) (Nat.le_of_ble_eq_true rfl) (Nat.le_of_ble_eq_true rfl)
  · rw [show eN (pk P) i h (F, B, G, dk) = eT (pE (pk P) i h (F, iB B 5, G, dk)) by unfold eN; rw [if_neg (by rw [e0]; decide), if_pos e0]]
    exact ctR_wide (ct_V C (c_X8_enterAct l D A P F B G dk i h hlt hO hz hn hi hk) Xe_bl (Or.inl rfl) tb_633 tb_9 ⟨Nat.le_trans (Nat.le_of_ble_eq_true rfl) hR.1, Nat.le_trans (Nat.le_of_ble_eq_true rfl) hR.2⟩ h1 tb_610 hx0 ⟨by decide, by decide⟩ (CN := cN (pk P i)) (by rw [e0]; exact tb_631) tb_632 (x_recv hw hi hk) (fun U hU hW => ⟨hE.go hS hU hW, x_post hw hU hW⟩) (by show _ = some 1; decide +kernel) hsize rfl hW hdg ⟨Nat.le_trans (Nat.add_le_add_left (Nat.le_of_ble_eq_true rfl) _) hf.1, Nat.le_trans (Nat.add_le_add_left (Nat.le_of_ble_eq_true rfl) _) hf.2⟩) (Nat.le_of_ble_eq_true rfl) (Nat.le_of_ble_eq_true rfl)
  · rw [show eN (pk P) i h (F, B, G, dk) = pE (pk P) i h (uF F i 5 (mn (F i 5 + 40) 5000), iB B 6, G, dk) by unfold eN; rw [if_neg (by rw [e0]; decide), if_neg (by rw [e0]; decide), if_pos (by rw [e0]; decide)]]
    exact ctR_wide (ct_V C (c_X1_enterAct l D A P F B G dk i h hlt hO hz hn hi hk) Xe_bl (Or.inl rfl) tb_613 tb_10 ⟨Nat.le_trans (Nat.le_of_ble_eq_true rfl) hR.1, Nat.le_trans (Nat.le_of_ble_eq_true rfl) hR.2⟩ h1 tb_610 hx0 ⟨by decide, by decide⟩ (CN := cN (pk P i)) (by rw [e0]; exact tb_611) tb_612 (x_recv hw hi hk) (fun U hU hW => ⟨hE.go hS hU hW, x_post hw hU hW⟩) (by show _ = some 1; decide +kernel) hsize rfl hW hdg ⟨Nat.le_trans (Nat.add_le_add_left (Nat.le_of_ble_eq_true rfl) _) hf.1, Nat.le_trans (Nat.add_le_add_left (Nat.le_of_ble_eq_true rfl) _) hf.2⟩) (Nat.le_of_ble_eq_true rfl) (Nat.le_of_ble_eq_true rfl)
  · rw [show eN (pk P) i h (F, B, G, dk) = pE (pk P) i h (uF F i 5 (mn (F i 5 + 40) 5000), iB B 6, G, dk) by unfold eN; rw [if_neg (by rw [e0]; decide), if_neg (by rw [e0]; decide), if_pos (by rw [e0]; decide)]]
    exact ctR_wide (ct_V C (c_X1_enterAct l D A P F B G dk i h hlt hO hz hn hi hk) Xe_bl (Or.inl rfl) tb_613 tb_10 ⟨Nat.le_trans (Nat.le_of_ble_eq_true rfl) hR.1, Nat.le_trans (Nat.le_of_ble_eq_true rfl) hR.2⟩ h1 tb_610 hx0 ⟨by decide, by decide⟩ (CN := cN (pk P i)) (by rw [e0]; exact tb_629) tb_612 (x_recv hw hi hk) (fun U hU hW => ⟨hE.go hS hU hW, x_post hw hU hW⟩) (by show _ = some 1; decide +kernel) hsize rfl hW hdg ⟨Nat.le_trans (Nat.add_le_add_left (Nat.le_of_ble_eq_true rfl) _) hf.1, Nat.le_trans (Nat.add_le_add_left (Nat.le_of_ble_eq_true rfl) _) hf.2⟩) (Nat.le_of_ble_eq_true rfl) (Nat.le_of_ble_eq_true rfl)
  · rw [show eN (pk P) i h (F, B, G, dk) = eC (pk P) i h (pE (pk P) i h (F, iB B 8, G, dk)) by unfold eN; rw [if_neg (by rw [e0]; decide), if_neg (by rw [e0]; decide), if_neg (by rw [e0]; decide), if_pos e0]]
    exact ctR_wide (ct_V C (c_X5_enterAct l D A P F B G dk i h hlt hO hz hn hi hk) Xe_bl (Or.inr ⟨_, rfl⟩) tb_626 tb_12 ⟨Nat.le_trans (Nat.le_of_ble_eq_true rfl) hR.1, Nat.le_trans (Nat.le_of_ble_eq_true rfl) hR.2⟩ h1 tb_610 hx0 ⟨by decide, by decide⟩ (CN := cN (pk P i)) (by rw [e0]; exact tb_624) tb_625 (x_recv hw hi hk) (fun U hU hW => ⟨hE.go hS hU hW, x_post hw hU hW⟩) (by show _ = some 1; decide +kernel) hsize rfl hW hdg ⟨Nat.le_trans (Nat.add_le_add_left (Nat.le_of_ble_eq_true rfl) _) hf.1, Nat.le_trans (Nat.add_le_add_left (Nat.le_of_ble_eq_true rfl) _) hf.2⟩) (Nat.le_of_ble_eq_true rfl) (Nat.le_of_ble_eq_true rfl)
end XV6
