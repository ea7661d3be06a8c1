/-! MAKING: constructors of the vehicles, make -/
theorem h_oi : Cond.code Lib.objectInit ⟨#[0xb1]⟩ 1 none ∈ wB := tb_26
/-- one object alone, of class k, with the fields fs -/
abbrev Vn (D : va_G) (q k : Nat) (fs : List Value) : State → Prop := fun U => va_K D sCl [] U ∧ va_P D sCl [(q, .inr (k, fs))] U.heap
section Mk
variable {p : Program} {l : Launch} {e : Env} {R : Room} {s : State} {m : MethodId} {args : Array Value} {below : List Frame} {meth : Method} {c : Code} {H : Heap} {locs : List Loc} {cells slots : Nat} {Q : State → Prop}
variable {cc b : ByteArray} {nL mL index pc : Nat} {ls : Array Slot} {st0 rest As : List Value} {own : String} {y : MethodName} {hd : Cond} {ret : Option FieldType} {rm : Room} {A : Nat → Prop} {Pre Post : State → Prop} {oc : Option Value ⊕ String} {D : va_G} {q k a : Nat} {fs : List Value} {H0 : Heap} {tys : List (ClassId × FieldType)}
theorem Vn_bl : Bl (Vn D q k fs) := fun U g mk a h => ⟨va_K.moved (u := U) (U := U.calling g mk a) (Vm.Alike.refl U.vm) h.1, h.2⟩
theorem vn_D : va_D (fun a => a = q) [(q, (.inr (k, fs) : va_E))] := ⟨fun i j p q' h1 h2 _ => by
  have e1 : i < 1 := (List.getElem?_eq_some_iff.mp h1).1
  have e2 : j < 1 := (List.getElem?_eq_some_iff.mp h2).1
  omega, fun i x hx => by
  have e1 : i < 1 := (List.getElem?_eq_some_iff.mp hx).1
  rw [show i = 0 by omega] at hx
  cases hx
  rfl⟩
theorem tx4_ty {j : Nat} (h : j < 10) : parseFieldDescriptor (TX4 j).2.2.1 = some (tyX4 j) := tyX4_ok j h
/-- a final field of the new object, in Cart's constructor -/
theorem vn_putF (C : CallFix p m c cc nL s args wB RX4) (hin : meth.name = "<init>") (hk : k < 9) (hK : va_K D sCl [] s) (hP : va_P D sCl [(q, .inr (k, fs))] H) (hS : va_S (fun a => a = q) H0 H locs) (j : Nat) (hj : j < 5) (hl : Cond.fieldLink RX4 index (TX4 j).1 (TX4 j).2.1 (TX4 j).2.2.1 ∈ wB) {v : Value} (hn : narrow (tyX4 j) v = v) (hf : fits (tyX4 j) v = true) (hlen : fs.length = 10) (hdg : decode cc pc = .ok (.putfield index, 3))
    (kk : ∀ (H1 : Heap) (locs1 : List Loc), va_P D sCl [(q, .inr (k, fs.set j v))] H1 → va_S (fun a => a = q) H0 H1 locs1 → W p l e R s m args below meth c H1 locs1 cells slots Q (F0 m (pc + 3) ls rest)) : W p l e R s m args below meth c H locs cells slots Q (F0 m pc ls (v :: .ref q :: rest)) :=
  va_putF (D := D) (ci := k) (v := v) (ty := tyX4 j) (C := cN k) (T := TX4) (N := 10) (ref := (TX4 j).1) C.1 C.2.1 C.2.2.2.2 (inK hk) tyX4 tyX4_ok nmX4 C.2.2.2.1 hK hP vn_D hS 0 rfl (sCl_k hk) j (by omega) (C.2.2.2.2 _ hl) (fun x hx => hx) (by rcases (show j = 0 ∨ j = 1 ∨ j = 2 ∨ j = 3 ∨ j = 4 by omega) with rfl | rfl | rfl | rfl | rfl <;> rfl) hin (tx4_decl (by omega)) (tx4_ty (by omega)) hn hf (by omega) hdg (fun H1 locs1 h1 h2 h3 => kk H1 locs1 h1 h3)
theorem vn_put (C : CallFix p m c cc nL s args wB RX4) (hk : k < 9) (hK : va_K D sCl [] s) (hP : va_P D sCl [(q, .inr (k, fs))] H) (hS : va_S (fun a => a = q) H0 H locs) (j : Nat) (hj5 : 5 ≤ j) (hj : j < 10) (hl : Cond.fieldLink RX4 index (TX4 j).1 (TX4 j).2.1 (TX4 j).2.2.1 ∈ wB) {v : Int32} (hlen : fs.length = 10) (hdg : decode cc pc = .ok (.putfield index, 3))
    (kk : ∀ (H1 : Heap) (locs1 : List Loc), va_P D sCl [(q, .inr (k, fs.set j (.int v)))] H1 → va_S (fun a => a = q) H0 H1 locs1 → W p l e R s m args below meth c H1 locs1 cells slots Q (F0 m (pc + 3) ls rest)) : W p l e R s m args below meth c H locs cells slots Q (F0 m pc ls (.int v :: .ref q :: rest)) :=
  va_put (D := D) (ci := k) (v := .int v) (ty := .int) (C := cN k) (T := TX4) (N := 10) (ref := (TX4 j).1) C.1 C.2.1 C.2.2.2.2 (inK hk) tyX4 tyX4_ok nmX4 C.2.2.2.1 hK hP vn_D hS 0 rfl (sCl_k hk) j (by omega) (C.2.2.2.2 _ hl) (fun x hx => hx) (tx4_put hj5 hj).1 (tx4_put hj5 hj).2 rfl rfl (by omega) hdg (fun H1 locs1 h1 h2 h3 => kk H1 locs1 h1 h3)
/-- a constructor's call -/
theorem ct_I (S : CallFix p m c cc nL s args wB own) (hM : Ct l y (.code y b mL none) rm A (.ref a :: As) Pre oc Post) (hbl : Bl Pre) (hG : Cond.code y b mL none ∈ wB) (hini : Cond.initialized y.cls ∈ wB) (hR : rm.frames + 1 ≤ R.frames ∧ 8 + (mL + 11) + rm.locals ≤ R.locals)
    (h1 : Cond.methodLink own index y ∈ wB) (hy1 : y.name = "<init>") (hy : y.cls ≠ "java/lang/invoke/MethodHandle" ∧ y.cls ≠ "java/lang/invoke/VarHandle") (h5 : Cond.instanceMethod y ∈ wB) (hpre : ∀ U : State, U.heap = H → s.WarmedH U.vm → Pre U)
    (hlen : (parseMethodDescriptor y.desc).map (fun d => d.parameters.length) = some As.length) (hsize : ls.size = nL) (hst : st0 = As.reverse ++ .ref a :: rest) (hW : (rest.map fun v => v.category).sum ≤ 8) (hdg : decode cc pc = .ok (.invokespecial index, 3)) (hf : cells + rm.cells ≤ R.cells ∧ slots + rm.slots ≤ R.slots) :
    CtR p l e R s m args below meth c H locs cells slots (F0 m pc ls st0) rest rm A oc Post := by
  have hK := ct_back (p := p) (e := e) (below := below) (R := R) hM hbl (Or.inl rfl) hG hini S.2.2.2.2 hR
  obtain ⟨hx, hb, hml, ho, hts⟩ := S
  intro T hT X
  have hpl : e.platform.magicAccessors = ({} : Platform).magicAccessors := by rw [X.admits.platform]
  have hdg' : decode c.code (F0 m pc ls st0).pc = .ok (.invokespecial index, 3) := by rw [hb]; exact hdg
  obtain ⟨mk, methM, cM, kP, vm₁, hnamed, hmethM, hcodeM, -, hlocalsM, -, hkP, -, hW₁, hstep₁⟩ := Steps.initColdArgs (e := e) X.here hx X.warmed hpl ho hy1 hy (hts _ h1) (hts _ h5) (hts _ hG) (f := F0 m pc ls st0) rfl (ct_len hlen) hst hdg'
  have X₁ := X.noted hW₁
  rcases hK m meth c ⟨T.setVm vm₁, locs, cells, slots⟩ (F0 m pc ls rest) (.invokespecial index) mk (Value.ref a :: As).toArray X₁ rfl (hsize.trans hml.symm) hdg' (by simpa [JFrame.monitorRoom] using hW) (X₁.named hnamed) ⟨hf.1, hf.2, rfl, hpre (T.setVm vm₁) hT X₁.warmed⟩ with ⟨v, ⟨U', l2, c2, s2⟩, X', ⟨g', mk', t, L, e1, e2, hq, h1, hL, h2, h3⟩, hsteps⟩ | ⟨q, ⟨U', l2, c2, s2⟩, X', ⟨g', mk', t, L, E, ce, e1, e2, hq, hce, hcv, hcl, h1, hL, h2, h3⟩, hsteps⟩
  · dsimp only [Pt.U, Pt.locs, Pt.cells, Pt.slots] at X' e1 e2 h1 h2 h3 hsteps
    subst h1; subst h2; subst h3
    exact Or.inl ⟨v, (T.setVm vm₁).calling g' mk' (Value.ref a :: As).toArray, t, U', L, hT, X', hL, e1, e2, hq, fun target h => hstep₁ _ fun acts => by rw [doInvoke_state]; exact hsteps.trans h⟩
  · dsimp only [Pt.U, Pt.locs, Pt.cells, Pt.slots] at X' e1 e2 h1 h2 h3 hsteps hcl
    subst h1; subst h2; subst h3
    exact Or.inr ⟨q, (T.setVm vm₁).calling g' mk' (Value.ref a :: As).toArray, t, U', L, E, ce, hT, X', hL, e1, e2, hq, hce, hcv, vx_cls X₁.warmed hcl, hstep₁ _ fun acts => by rw [doInvoke_state]; exact hsteps⟩
/-- new: the object lies at the heap's end -/
theorem x_new {CN : String} {T : u_T} {N ci : Nat} (C : CallFix p m c cc nL s args wB own) (ty : Nat → FieldType) (hty : ∀ j, j < N → parseFieldDescriptor (T j).2.2.1 = some (ty j)) (hin : ∀ w ∈ u_ws CN T N, w ∈ wB) (hc : sCl[ci]? = some (CN, T, N)) (hK : va_K D sCl tys s) (h1 : Cond.classLink own index CN ∈ wB) (h2 : Cond.instantiable CN N ∈ wB) (h3 : Cond.initialized CN ∈ wB) (hfs : ∀ j, j < N → defaultValue (ty j) = vp_V fs j) (hcells : cells + 1 ≤ R.cells) (hslots : slots + N ≤ R.slots) (hdg : decode cc pc = .ok (.new index, 3))
    (kk : ∀ (H1 : Heap), H1.size = H.size + 1 → (∀ a : Nat, a < H.size → H1[a]? = H[a]?) → va_P D sCl [(H.size, .inr (ci, fs))] H1 → W p l e R s m args below meth c H1 locs (cells + 1) (slots + N) Q (F0 m (pc + 3) ls (.ref H.size :: rest))) : W p l e R s m args below meth c H locs cells slots Q (F0 m pc ls rest) := by
  have hKn := hK.1 ci _ hc
  refine W.newcK C.1 C.2.1 C.2.2.2.1 (C.2.2.2.2 _ h1) (C.2.2.2.2 _ h2) (C.2.2.2.2 _ h3) rfl hdg hcells hslots hKn.2.1 rfl fun H1 kC hkC e1 z1 o1 => ?_
  refine kk H1 z1 o1 (fun k x hx => ?_)
  have hz : k < 1 := (List.getElem?_eq_some_iff.mp hx).1
  rw [show k = 0 by omega] at hx
  cases hx
  exact ⟨_, hc, (u_born ty C.2.2.2.2 hin hKn hkC e1 hty).to hfs⟩
theorem S_new {A : Nat → Prop} {H1 : Heap} (hS : va_S A H0 H locs) (z1 : H1.size = H.size + 1) (o1 : ∀ a : Nat, a < H.size → H1[a]? = H[a]?) : va_S A H0 H1 locs := ⟨Nat.le_trans hS.1 (by omega), fun x h1 h2 => (o1 x (Nat.lt_of_lt_of_le h1 hS.1)).trans (hS.2.1 x h1 h2), hS.2.2⟩
end Mk
set_option maxHeartbeats 400000 in
set_option maxRecDepth 100000 in
/-- the constructor -/
theorem c_X4_init (l : Launch) (D : va_G) (q bq k : Nat) (nu ki ma lo sh : Int32) (hk : k < 9) : Ct l yX4_init (.code yX4_init cX4_init 7 none) ({ frames := 1, cells := 0, slots := 0, locals := 12 }) (fun a => a = q) [.ref q, .ref bq, .int nu, .int ki, .int ma, .int lo, .int sh] (Vn D q k [.null, .int 0, .int 0, .int 0, .int 0, .int 0, .int 0, .int 0, .int 0, .int 0]) (.inl none) (Vn D q k [.ref bq, .int nu, .int ki, .int ma, .int sh, .int lo, .int 0, .int 0, .int 0, .int 0]) := by
  refine ct_mk (by decide) (Nat.le_of_ble_eq_true rfl) (fun p e s m below meth c ls C hr hlocks hnm htab hP hl => ?_)
  obtain ⟨hK, hP⟩ := hP
  have hS : va_S (fun a => a = q) s.heap s.heap [] := va_S.rf
  have hl : lv_has ls 7 [(0, .ref q), (1, .ref bq), (2, .int nu), (3, .int ki), (4, .int ma), (5, .int lo), (6, .int sh)] := hl
  refine lv_aload_n C.1 C.2.1 dX4_init_0 rfl (lv_at hl 0 rfl) ?_
  refine W.objInit C.1 C.2.1 C.2.2.2.1 (C.2.2.2.2 _ tb_110) (C.2.2.2.2 _ tb_25) (C.2.2.2.2 _ h_oi) rfl (by rw [C.2.2.1]; exact hl.1) rfl dX4_init_1 (Nat.le_of_ble_eq_true rfl) (Nat.le_of_ble_eq_true rfl) ?_
  refine W.eq (g2 := F0 m 4 ls []) rfl ?_
  refine lv_aload_n C.1 C.2.1 dX4_init_4 rfl (lv_at hl 0 rfl) ?_
  refine lv_aload_n C.1 C.2.1 dX4_init_5 rfl (lv_at hl 1 rfl) ?_
  refine vn_putF C hnm hk hK hP hS 0 (by decide) tb_111 rfl rfl rfl dX4_init_6 (fun H locs hP hS => ?_)
  refine lv_aload_n C.1 C.2.1 dX4_init_9 rfl (lv_at hl 0 rfl) ?_
  refine lv_iload_n C.1 C.2.1 dX4_init_10 rfl (lv_at hl 2 rfl) ?_
  refine vn_putF C hnm hk hK hP hS 1 (by decide) tb_126 rfl rfl rfl dX4_init_11 (fun H locs hP hS => ?_)
  refine lv_aload_n C.1 C.2.1 dX4_init_14 rfl (lv_at hl 0 rfl) ?_
  refine lv_iload_n C.1 C.2.1 dX4_init_15 rfl (lv_at hl 3 rfl) ?_
  refine vn_putF C hnm hk hK hP hS 2 (by decide) tb_129 rfl rfl rfl dX4_init_16 (fun H locs hP hS => ?_)
  refine lv_aload_n C.1 C.2.1 dX4_init_19 rfl (lv_at hl 0 rfl) ?_
  refine lv_iload C.1 C.2.1 dX4_init_20 (lv_at hl 4 rfl) ?_
  refine vn_putF C hnm hk hK hP hS 3 (by decide) tb_132 rfl rfl rfl dX4_init_22 (fun H locs hP hS => ?_)
  refine lv_aload_n C.1 C.2.1 dX4_init_25 rfl (lv_at hl 0 rfl) ?_
  refine lv_iload C.1 C.2.1 dX4_init_26 (lv_at hl 6 rfl) ?_
  refine vn_putF C hnm hk hK hP hS 4 (by decide) tb_134 rfl rfl rfl dX4_init_28 (fun H locs hP hS => ?_)
  refine lv_aload_n C.1 C.2.1 dX4_init_31 rfl (lv_at hl 0 rfl) ?_
  refine lv_iload C.1 C.2.1 dX4_init_32 (lv_at hl 5 rfl) ?_
  refine vn_put C hk hK hP hS 5 (by decide) (by decide) tb_136 rfl dX4_init_34 (fun H locs hP hS => ?_)
  refine lv_aload_n C.1 C.2.1 dX4_init_37 rfl (lv_at hl 0 rfl) ?_
  refine lv_iconst (v := 0) C.1 C.2.1 dX4_init_38 (by decide) ?_
  refine vn_put C hk hK hP hS 6 (by decide) (by decide) tb_146 rfl dX4_init_39 (fun H locs hP hS => ?_)
  refine lv_aload_n C.1 C.2.1 dX4_init_42 rfl (lv_at hl 0 rfl) ?_
  refine lv_iconst (v := 0) C.1 C.2.1 dX4_init_43 (by decide) ?_
  refine vn_put C hk hK hP hS 7 (by decide) (by decide) tb_148 rfl dX4_init_44 (fun H locs hP hS => ?_)
  refine lv_aload_n C.1 C.2.1 dX4_init_47 rfl (lv_at hl 0 rfl) ?_
  refine lv_iconst (v := 0) C.1 C.2.1 dX4_init_48 (by decide) ?_
  refine vn_put C hk hK hP hS 8 (by decide) (by decide) tb_150 rfl dX4_init_49 (fun H locs hP hS => ?_)
  refine lv_aload_n C.1 C.2.1 dX4_init_52 rfl (lv_at hl 0 rfl) ?_
  refine lv_iconst (v := 0) C.1 C.2.1 dX4_init_53 (by decide) ?_
  refine vn_put C hk hK hP hS 9 (by decide) (by decide) tb_152 rfl dX4_init_54 (fun H locs hP hS => ?_)
  exact ct_v C hr hlocks rfl (fun t ht hW => ⟨va_K.moved hW.alike hK, by rw [ht]; exact hP⟩) hS (Nat.le_of_ble_eq_true rfl) (Nat.le_of_ble_eq_true rfl) dX4_init_57
set_option maxHeartbeats 400000 in
set_option maxRecDepth 100000 in
/-- the constructor -/
theorem c_X9_init (l : Launch) (D : va_G) (q bq k : Nat) (nu ki ma lo sh : Int32) (hk : k < 9) : Ct l yX9_init (.code yX9_init cX9_init 7 none) ({ frames := 2, cells := 0, slots := 0, locals := 38 }) (fun a => a = q) [.ref q, .ref bq, .int nu, .int ki, .int ma, .int lo, .int sh] (Vn D q k [.null, .int 0, .int 0, .int 0, .int 0, .int 0, .int 0, .int 0, .int 0, .int 0]) (.inl none) (Vn D q k [.ref bq, .int nu, .int ki, .int ma, .int sh, .int lo, .int 0, .int 0, .int 0, .int 0]) := by
  refine ct_mk (by decide) (Nat.le_of_ble_eq_true rfl) (fun p e s m below meth c ls C hr hlocks hnm htab hP hl => ?_)
  obtain ⟨hK, hP⟩ := hP
  have hS : va_S (fun a => a = q) s.heap s.heap [] := va_S.rf
  have hl : lv_has ls 7 [(0, .ref q), (1, .ref bq), (2, .int nu), (3, .int ki), (4, .int ma), (5, .int lo), (6, .int sh)] := hl
  refine lv_aload_n C.1 C.2.1 dX9_init_0 rfl (lv_at hl 0 rfl) ?_
  refine lv_aload_n C.1 C.2.1 dX9_init_1 rfl (lv_at hl 1 rfl) ?_
  refine lv_iload_n C.1 C.2.1 dX9_init_2 rfl (lv_at hl 2 rfl) ?_
  refine lv_iload_n C.1 C.2.1 dX9_init_3 rfl (lv_at hl 3 rfl) ?_
  refine lv_iload C.1 C.2.1 dX9_init_4 (lv_at hl 4 rfl) ?_
  refine lv_iload C.1 C.2.1 dX9_init_6 (lv_at hl 5 rfl) ?_
  refine lv_iload C.1 C.2.1 dX9_init_8 (lv_at hl 6 rfl) ?_
  refine ct_ret (ct_I C (c_X4_init l D q bq k nu ki ma lo sh hk) Vn_bl tb_109 tb_4 ⟨Nat.le_of_ble_eq_true rfl, Nat.le_of_ble_eq_true rfl⟩ tb_107 rfl ⟨by decide, by decide⟩ tb_108 (fun U hU hW => ⟨va_K.moved hW.alike hK, by rw [hU]; exact hP⟩) (by show _ = some 6; decide +kernel) hl.1 rfl (Nat.le_of_ble_eq_true rfl) dX9_init_10 ⟨Nat.le_of_ble_eq_true rfl, Nat.le_of_ble_eq_true rfl⟩) hS (fun _ h => h) (fun t H locs ht hvm hw _ _ hS => ?_)
  have hP : va_P D sCl [(q, .inr (k, [.ref bq, .int nu, .int ki, .int ma, .int sh, .int lo, .int 0, .int 0, .int 0, .int 0]))] H := by have h9 := hw.2; rw [ht] at h9; exact h9
  exact ct_v C hr hlocks rfl (fun t ht hW => ⟨va_K.moved hW.alike hK, by rw [ht]; exact hP⟩) hS (Nat.le_of_ble_eq_true rfl) (Nat.le_of_ble_eq_true rfl) dX9_init_13
set_option maxHeartbeats 400000 in
set_option maxRecDepth 100000 in
/-- the constructor -/
theorem c_X5_init (l : Launch) (D : va_G) (q bq k : Nat) (nu ki ma lo sh : Int32) (hk : k < 9) : Ct l yX5_init (.code yX5_init cX5_init 7 none) ({ frames := 2, cells := 0, slots := 0, locals := 38 }) (fun a => a = q) [.ref q, .ref bq, .int nu, .int ki, .int ma, .int lo, .int sh] (Vn D q k [.null, .int 0, .int 0, .int 0, .int 0, .int 0, .int 0, .int 0, .int 0, .int 0]) (.inl none) (Vn D q k [.ref bq, .int nu, .int ki, .int ma, .int sh, .int lo, .int 0, .int 0, .int 0, .int 0]) := by
  refine ct_mk (by decide) (Nat.le_of_ble_eq_true rfl) (fun p e s m below meth c ls C hr hlocks hnm htab hP hl => ?_)
  obtain ⟨hK, hP⟩ := hP
  have hS : va_S (fun a => a = q) s.heap s.heap [] := va_S.rf
  have hl : lv_has ls 7 [(0, .ref q), (1, .ref bq), (2, .int nu), (3, .int ki), (4, .int ma), (5, .int lo), (6, .int sh)] := hl
  refine lv_aload_n C.1 C.2.1 dX5_init_0 rfl (lv_at hl 0 rfl) ?_
  refine lv_aload_n C.1 C.2.1 dX5_init_1 rfl (lv_at hl 1 rfl) ?_
  refine lv_iload_n C.1 C.2.1 dX5_init_2 rfl (lv_at hl 2 rfl) ?_
  refine lv_iload_n C.1 C.2.1 dX5_init_3 rfl (lv_at hl 3 rfl) ?_
  refine lv_iload C.1 C.2.1 dX5_init_4 (lv_at hl 4 rfl) ?_
  refine lv_iload C.1 C.2.1 dX5_init_6 (lv_at hl 5 rfl) ?_
  refine lv_iload C.1 C.2.1 dX5_init_8 (lv_at hl 6 rfl) ?_
  refine ct_ret (ct_I C (c_X4_init l D q bq k nu ki ma lo sh hk) Vn_bl tb_109 tb_4 ⟨Nat.le_of_ble_eq_true rfl, Nat.le_of_ble_eq_true rfl⟩ tb_284 rfl ⟨by decide, by decide⟩ tb_108 (fun U hU hW => ⟨va_K.moved hW.alike hK, by rw [hU]; exact hP⟩) (by show _ = some 6; decide +kernel) hl.1 rfl (Nat.le_of_ble_eq_true rfl) dX5_init_10 ⟨Nat.le_of_ble_eq_true rfl, Nat.le_of_ble_eq_true rfl⟩) hS (fun _ h => h) (fun t H locs ht hvm hw _ _ hS => ?_)
  have hP : va_P D sCl [(q, .inr (k, [.ref bq, .int nu, .int ki, .int ma, .int sh, .int lo, .int 0, .int 0, .int 0, .int 0]))] H := by have h9 := hw.2; rw [ht] at h9; exact h9
  exact ct_v C hr hlocks rfl (fun t ht hW => ⟨va_K.moved hW.alike hK, by rw [ht]; exact hP⟩) hS (Nat.le_of_ble_eq_true rfl) (Nat.le_of_ble_eq_true rfl) dX5_init_13
set_option maxHeartbeats 400000 in
set_option maxRecDepth 100000 in
/-- the constructor -/
theorem c_X3_init (l : Launch) (D : va_G) (q bq k : Nat) (nu ki ma lo sh : Int32) (hk : k < 9) : Ct l yX3_init (.code yX3_init cX3_init 7 none) ({ frames := 3, cells := 0, slots := 0, locals := 64 }) (fun a => a = q) [.ref q, .ref bq, .int nu, .int ki, .int ma, .int lo, .int sh] (Vn D q k [.null, .int 0, .int 0, .int 0, .int 0, .int 0, .int 0, .int 0, .int 0, .int 0]) (.inl none) (Vn D q k [.ref bq, .int nu, .int ki, .int ma, .int sh, .int lo, .int 0, .int 0, .int 0, .int 0]) := by
  refine ct_mk (by decide) (Nat.le_of_ble_eq_true rfl) (fun p e s m below meth c ls C hr hlocks hnm htab hP hl => ?_)
  obtain ⟨hK, hP⟩ := hP
  have hS : va_S (fun a => a = q) s.heap s.heap [] := va_S.rf
  have hl : lv_has ls 7 [(0, .ref q), (1, .ref bq), (2, .int nu), (3, .int ki), (4, .int ma), (5, .int lo), (6, .int sh)] := hl
  refine lv_aload_n C.1 C.2.1 dX3_init_0 rfl (lv_at hl 0 rfl) ?_
  refine lv_aload_n C.1 C.2.1 dX3_init_1 rfl (lv_at hl 1 rfl) ?_
  refine lv_iload_n C.1 C.2.1 dX3_init_2 rfl (lv_at hl 2 rfl) ?_
  refine lv_iload_n C.1 C.2.1 dX3_init_3 rfl (lv_at hl 3 rfl) ?_
  refine lv_iload C.1 C.2.1 dX3_init_4 (lv_at hl 4 rfl) ?_
  refine lv_iload C.1 C.2.1 dX3_init_6 (lv_at hl 5 rfl) ?_
  refine lv_iload C.1 C.2.1 dX3_init_8 (lv_at hl 6 rfl) ?_
  refine ct_ret (ct_I C (c_X9_init l D q bq k nu ki ma lo sh hk) Vn_bl tb_106 tb_5 ⟨Nat.le_of_ble_eq_true rfl, Nat.le_of_ble_eq_true rfl⟩ tb_182 rfl ⟨by decide, by decide⟩ tb_105 (fun U hU hW => ⟨va_K.moved hW.alike hK, by rw [hU]; exact hP⟩) (by show _ = some 6; decide +kernel) hl.1 rfl (Nat.le_of_ble_eq_true rfl) dX3_init_10 ⟨Nat.le_of_ble_eq_true rfl, Nat.le_of_ble_eq_true rfl⟩) hS (fun _ h => h) (fun t H locs ht hvm hw _ _ hS => ?_)
  have hP : va_P D sCl [(q, .inr (k, [.ref bq, .int nu, .int ki, .int ma, .int sh, .int lo, .int 0, .int 0, .int 0, .int 0]))] H := by have h9 := hw.2; rw [ht] at h9; exact h9
  exact ct_v C hr hlocks rfl (fun t ht hW => ⟨va_K.moved hW.alike hK, by rw [ht]; exact hP⟩) hS (Nat.le_of_ble_eq_true rfl) (Nat.le_of_ble_eq_true rfl) dX3_init_13
set_option maxHeartbeats 400000 in
set_option maxRecDepth 100000 in
/-- the constructor -/
theorem c_X7_init (l : Launch) (D : va_G) (q bq k : Nat) (nu ki ma lo sh : Int32) (hk : k < 9) : Ct l yX7_init (.code yX7_init cX7_init 7 none) ({ frames := 3, cells := 0, slots := 0, locals := 64 }) (fun a => a = q) [.ref q, .ref bq, .int nu, .int ki, .int ma, .int lo, .int sh] (Vn D q k [.null, .int 0, .int 0, .int 0, .int 0, .int 0, .int 0, .int 0, .int 0, .int 0]) (.inl none) (Vn D q k [.ref bq, .int nu, .int ki, .int ma, .int sh, .int lo, .int 0, .int 0, .int 0, .int 0]) := by
  refine ct_mk (by decide) (Nat.le_of_ble_eq_true rfl) (fun p e s m below meth c ls C hr hlocks hnm htab hP hl => ?_)
  obtain ⟨hK, hP⟩ := hP
  have hS : va_S (fun a => a = q) s.heap s.heap [] := va_S.rf
  have hl : lv_has ls 7 [(0, .ref q), (1, .ref bq), (2, .int nu), (3, .int ki), (4, .int ma), (5, .int lo), (6, .int sh)] := hl
  refine lv_aload_n C.1 C.2.1 dX7_init_0 rfl (lv_at hl 0 rfl) ?_
  refine lv_aload_n C.1 C.2.1 dX7_init_1 rfl (lv_at hl 1 rfl) ?_
  refine lv_iload_n C.1 C.2.1 dX7_init_2 rfl (lv_at hl 2 rfl) ?_
  refine lv_iload_n C.1 C.2.1 dX7_init_3 rfl (lv_at hl 3 rfl) ?_
  refine lv_iload C.1 C.2.1 dX7_init_4 (lv_at hl 4 rfl) ?_
  refine lv_iload C.1 C.2.1 dX7_init_6 (lv_at hl 5 rfl) ?_
  refine lv_iload C.1 C.2.1 dX7_init_8 (lv_at hl 6 rfl) ?_
  refine ct_ret (ct_I C (c_X9_init l D q bq k nu ki ma lo sh hk) Vn_bl tb_106 tb_5 ⟨Nat.le_of_ble_eq_true rfl, Nat.le_of_ble_eq_true rfl⟩ tb_216 rfl ⟨by decide, by decide⟩ tb_105 (fun U hU hW => ⟨va_K.moved hW.alike hK, by rw [hU]; exact hP⟩) (by show _ = some 6; decide +kernel) hl.1 rfl (Nat.le_of_ble_eq_true rfl) dX7_init_10 ⟨Nat.le_of_ble_eq_true rfl, Nat.le_of_ble_eq_true rfl⟩) hS (fun _ h => h) (fun t H locs ht hvm hw _ _ hS => ?_)
  have hP : va_P D sCl [(q, .inr (k, [.ref bq, .int nu, .int ki, .int ma, .int sh, .int lo, .int 0, .int 0, .int 0, .int 0]))] H := by have h9 := hw.2; rw [ht] at h9; exact h9
  exact ct_v C hr hlocks rfl (fun t ht hW => ⟨va_K.moved hW.alike hK, by rw [ht]; exact hP⟩) hS (Nat.le_of_ble_eq_true rfl) (Nat.le_of_ble_eq_true rfl) dX7_init_13
set_option maxHeartbeats 400000 in
set_option maxRecDepth 100000 in
/-- the constructor -/
theorem c_X2_init (l : Launch) (D : va_G) (q bq k : Nat) (nu ki ma lo sh : Int32) (hk : k < 9) : Ct l yX2_init (.code yX2_init cX2_init 7 none) ({ frames := 4, cells := 0, slots := 0, locals := 90 }) (fun a => a = q) [.ref q, .ref bq, .int nu, .int ki, .int ma, .int lo, .int sh] (Vn D q k [.null, .int 0, .int 0, .int 0, .int 0, .int 0, .int 0, .int 0, .int 0, .int 0]) (.inl none) (Vn D q k [.ref bq, .int nu, .int ki, .int ma, .int sh, .int lo, .int 0, .int 0, .int 0, .int 0]) := by
  refine ct_mk (by decide) (Nat.le_of_ble_eq_true rfl) (fun p e s m below meth c ls C hr hlocks hnm htab hP hl => ?_)
  obtain ⟨hK, hP⟩ := hP
  have hS : va_S (fun a => a = q) s.heap s.heap [] := va_S.rf
  have hl : lv_has ls 7 [(0, .ref q), (1, .ref bq), (2, .int nu), (3, .int ki), (4, .int ma), (5, .int lo), (6, .int sh)] := hl
  refine lv_aload_n C.1 C.2.1 dX2_init_0 rfl (lv_at hl 0 rfl) ?_
  refine lv_aload_n C.1 C.2.1 dX2_init_1 rfl (lv_at hl 1 rfl) ?_
  refine lv_iload_n C.1 C.2.1 dX2_init_2 rfl (lv_at hl 2 rfl) ?_
  refine lv_iload_n C.1 C.2.1 dX2_init_3 rfl (lv_at hl 3 rfl) ?_
  refine lv_iload C.1 C.2.1 dX2_init_4 (lv_at hl 4 rfl) ?_
  refine lv_iload C.1 C.2.1 dX2_init_6 (lv_at hl 5 rfl) ?_
  refine lv_iload C.1 C.2.1 dX2_init_8 (lv_at hl 6 rfl) ?_
  refine ct_ret (ct_I C (c_X3_init l D q bq k nu ki ma lo sh hk) Vn_bl tb_181 tb_6 ⟨Nat.le_of_ble_eq_true rfl, Nat.le_of_ble_eq_true rfl⟩ tb_199 rfl ⟨by decide, by decide⟩ tb_180 (fun U hU hW => ⟨va_K.moved hW.alike hK, by rw [hU]; exact hP⟩) (by show _ = some 6; decide +kernel) hl.1 rfl (Nat.le_of_ble_eq_true rfl) dX2_init_10 ⟨Nat.le_of_ble_eq_true rfl, Nat.le_of_ble_eq_true rfl⟩) hS (fun _ h => h) (fun t H locs ht hvm hw _ _ hS => ?_)
  have hP : va_P D sCl [(q, .inr (k, [.ref bq, .int nu, .int ki, .int ma, .int sh, .int lo, .int 0, .int 0, .int 0, .int 0]))] H := by have h9 := hw.2; rw [ht] at h9; exact h9
  exact ct_v C hr hlocks rfl (fun t ht hW => ⟨va_K.moved hW.alike hK, by rw [ht]; exact hP⟩) hS (Nat.le_of_ble_eq_true rfl) (Nat.le_of_ble_eq_true rfl) dX2_init_13
set_option maxHeartbeats 400000 in
set_option maxRecDepth 100000 in
/-- the constructor -/
theorem c_X8_init (l : Launch) (D : va_G) (q bq k : Nat) (nu ki ma lo sh : Int32) (hk : k < 9) : Ct l yX8_init (.code yX8_init cX8_init 7 none) ({ frames := 4, cells := 0, slots := 0, locals := 90 }) (fun a => a = q) [.ref q, .ref bq, .int nu, .int ki, .int ma, .int lo, .int sh] (Vn D q k [.null, .int 0, .int 0, .int 0, .int 0, .int 0, .int 0, .int 0, .int 0, .int 0]) (.inl none) (Vn D q k [.ref bq, .int nu, .int ki, .int ma, .int sh, .int lo, .int 0, .int 0, .int 0, .int 0]) := by
  refine ct_mk (by decide) (Nat.le_of_ble_eq_true rfl) (fun p e s m below meth c ls C hr hlocks hnm htab hP hl => ?_)
  obtain ⟨hK, hP⟩ := hP
  have hS : va_S (fun a => a = q) s.heap s.heap [] := va_S.rf
  have hl : lv_has ls 7 [(0, .ref q), (1, .ref bq), (2, .int nu), (3, .int ki), (4, .int ma), (5, .int lo), (6, .int sh)] := hl
  refine lv_aload_n C.1 C.2.1 dX8_init_0 rfl (lv_at hl 0 rfl) ?_
  refine lv_aload_n C.1 C.2.1 dX8_init_1 rfl (lv_at hl 1 rfl) ?_
  refine lv_iload_n C.1 C.2.1 dX8_init_2 rfl (lv_at hl 2 rfl) ?_
  refine lv_iload_n C.1 C.2.1 dX8_init_3 rfl (lv_at hl 3 rfl) ?_
  refine lv_iload C.1 C.2.1 dX8_init_4 (lv_at hl 4 rfl) ?_
  refine lv_iload C.1 C.2.1 dX8_init_6 (lv_at hl 5 rfl) ?_
  refine lv_iload C.1 C.2.1 dX8_init_8 (lv_at hl 6 rfl) ?_
  refine ct_ret (ct_I C (c_X7_init l D q bq k nu ki ma lo sh hk) Vn_bl tb_215 tb_8 ⟨Nat.le_of_ble_eq_true rfl, Nat.le_of_ble_eq_true rfl⟩ tb_233 rfl ⟨by decide, by decide⟩ tb_214 (fun U hU hW => ⟨va_K.moved hW.alike hK, by rw [hU]; exact hP⟩) (by show _ = some 6; decide +kernel) hl.1 rfl (Nat.le_of_ble_eq_true rfl) dX8_init_10 ⟨Nat.le_of_ble_eq_true rfl, Nat.le_of_ble_eq_true rfl⟩) hS (fun _ h => h) (fun t H locs ht hvm hw _ _ hS => ?_)
  have hP : va_P D sCl [(q, .inr (k, [.ref bq, .int nu, .int ki, .int ma, .int sh, .int lo, .int 0, .int 0, .int 0, .int 0]))] H := by have h9 := hw.2; rw [ht] at h9; exact h9
  exact ct_v C hr hlocks rfl (fun t ht hW => ⟨va_K.moved hW.alike hK, by rw [ht]; exact hP⟩) hS (Nat.le_of_ble_eq_true rfl) (Nat.le_of_ble_eq_true rfl) dX8_init_13
set_option maxHeartbeats 400000 in
set_option maxRecDepth 100000 in
/-- the constructor -/
theorem c_X1_init (l : Launch) (D : va_G) (q bq k : Nat) (nu ki ma lo sh : Int32) (hk : k < 9) : Ct l yX1_init (.code yX1_init cX1_init 7 none) ({ frames := 4, cells := 0, slots := 0, locals := 90 }) (fun a => a = q) [.ref q, .ref bq, .int nu, .int ki, .int ma, .int lo, .int sh] (Vn D q k [.null, .int 0, .int 0, .int 0, .int 0, .int 0, .int 0, .int 0, .int 0, .int 0]) (.inl none) (Vn D q k [.ref bq, .int nu, .int ki, .int ma, .int sh, .int lo, .int 0, .int 0, .int 0, .int 0]) := by
  refine ct_mk (by decide) (Nat.le_of_ble_eq_true rfl) (fun p e s m below meth c ls C hr hlocks hnm htab hP hl => ?_)
  obtain ⟨hK, hP⟩ := hP
  have hS : va_S (fun a => a = q) s.heap s.heap [] := va_S.rf
  have hl : lv_has ls 7 [(0, .ref q), (1, .ref bq), (2, .int nu), (3, .int ki), (4, .int ma), (5, .int lo), (6, .int sh)] := hl
  refine lv_aload_n C.1 C.2.1 dX1_init_0 rfl (lv_at hl 0 rfl) ?_
  refine lv_aload_n C.1 C.2.1 dX1_init_1 rfl (lv_at hl 1 rfl) ?_
  refine lv_iload_n C.1 C.2.1 dX1_init_2 rfl (lv_at hl 2 rfl) ?_
  refine lv_iload_n C.1 C.2.1 dX1_init_3 rfl (lv_at hl 3 rfl) ?_
  refine lv_iload C.1 C.2.1 dX1_init_4 (lv_at hl 4 rfl) ?_
  refine lv_iload C.1 C.2.1 dX1_init_6 (lv_at hl 5 rfl) ?_
  refine lv_iload C.1 C.2.1 dX1_init_8 (lv_at hl 6 rfl) ?_
  refine ct_ret (ct_I C (c_X7_init l D q bq k nu ki ma lo sh hk) Vn_bl tb_215 tb_8 ⟨Nat.le_of_ble_eq_true rfl, Nat.le_of_ble_eq_true rfl⟩ tb_250 rfl ⟨by decide, by decide⟩ tb_214 (fun U hU hW => ⟨va_K.moved hW.alike hK, by rw [hU]; exact hP⟩) (by show _ = some 6; decide +kernel) hl.1 rfl (Nat.le_of_ble_eq_true rfl) dX1_init_10 ⟨Nat.le_of_ble_eq_true rfl, Nat.le_of_ble_eq_true rfl⟩) hS (fun _ h => h) (fun t H locs ht hvm hw _ _ hS => ?_)
  have hP : va_P D sCl [(q, .inr (k, [.ref bq, .int nu, .int ki, .int ma, .int sh, .int lo, .int 0, .int 0, .int 0, .int 0]))] H := by have h9 := hw.2; rw [ht] at h9; exact h9
  exact ct_v C hr hlocks rfl (fun t ht hW => ⟨va_K.moved hW.alike hK, by rw [ht]; exact hP⟩) hS (Nat.le_of_ble_eq_true rfl) (Nat.le_of_ble_eq_true rfl) dX1_init_13
set_option maxHeartbeats 400000 in
set_option maxRecDepth 100000 in
/-- the constructor -/
theorem c_X6_init (l : Launch) (D : va_G) (q bq k : Nat) (nu ki ma lo sh : Int32) (hk : k < 9) : Ct l yX6_init (.code yX6_init cX6_init 7 none) ({ frames := 5, cells := 0, slots := 0, locals := 116 }) (fun a => a = q) [.ref q, .ref bq, .int nu, .int ki, .int ma, .int lo, .int sh] (Vn D q k [.null, .int 0, .int 0, .int 0, .int 0, .int 0, .int 0, .int 0, .int 0, .int 0]) (.inl none) (Vn D q k [.ref bq, .int nu, .int ki, .int ma, .int sh, .int lo, .int 0, .int 0, .int 0, .int 0]) := by
  refine ct_mk (by decide) (Nat.le_of_ble_eq_true rfl) (fun p e s m below meth c ls C hr hlocks hnm htab hP hl => ?_)
  obtain ⟨hK, hP⟩ := hP
  have hS : va_S (fun a => a = q) s.heap s.heap [] := va_S.rf
  have hl : lv_has ls 7 [(0, .ref q), (1, .ref bq), (2, .int nu), (3, .int ki), (4, .int ma), (5, .int lo), (6, .int sh)] := hl
  refine lv_aload_n C.1 C.2.1 dX6_init_0 rfl (lv_at hl 0 rfl) ?_
  refine lv_aload_n C.1 C.2.1 dX6_init_1 rfl (lv_at hl 1 rfl) ?_
  refine lv_iload_n C.1 C.2.1 dX6_init_2 rfl (lv_at hl 2 rfl) ?_
  refine lv_iload_n C.1 C.2.1 dX6_init_3 rfl (lv_at hl 3 rfl) ?_
  refine lv_iload C.1 C.2.1 dX6_init_4 (lv_at hl 4 rfl) ?_
  refine lv_iload C.1 C.2.1 dX6_init_6 (lv_at hl 5 rfl) ?_
  refine lv_iload C.1 C.2.1 dX6_init_8 (lv_at hl 6 rfl) ?_
  refine ct_ret (ct_I C (c_X1_init l D q bq k nu ki ma lo sh hk) Vn_bl tb_249 tb_10 ⟨Nat.le_of_ble_eq_true rfl, Nat.le_of_ble_eq_true rfl⟩ tb_267 rfl ⟨by decide, by decide⟩ tb_248 (fun U hU hW => ⟨va_K.moved hW.alike hK, by rw [hU]; exact hP⟩) (by show _ = some 6; decide +kernel) hl.1 rfl (Nat.le_of_ble_eq_true rfl) dX6_init_10 ⟨Nat.le_of_ble_eq_true rfl, Nat.le_of_ble_eq_true rfl⟩) hS (fun _ h => h) (fun t H locs ht hvm hw _ _ hS => ?_)
  have hP : va_P D sCl [(q, .inr (k, [.ref bq, .int nu, .int ki, .int ma, .int sh, .int lo, .int 0, .int 0, .int 0, .int 0]))] H := by have h9 := hw.2; rw [ht] at h9; exact h9
  exact ct_v C hr hlocks rfl (fun t ht hW => ⟨va_K.moved hW.alike hK, by rw [ht]; exact hP⟩) hS (Nat.le_of_ble_eq_true rfl) (Nat.le_of_ble_eq_true rfl) dX6_init_13
/-- the world, and a new object beside it -/
abbrev Xn (D : va_G) (A : Nat → Prop) (P : SwP) (F : Nat → Nat → Int32) (B G : Nat → Int32) (dk : List Nat) (sz k : Nat) (fs : List Value) : State → Prop := fun U => Xp D A P F B G dk U ∧ va_P D sCl [(sz, .inr (k, fs))] U.heap
theorem x_keptA {D : va_G} {A A1 : Nat → Prop} {P : SwP} {F : Nat → Nat → Int32} {B G : Nat → Int32} {n : Int32} {fd : Nat → Option Nat} {s : State} {H H1 : Heap} (hw : XwR D A P F B G n fd s H) (hk : ∀ a : Nat, a < H.size → H1[a]? = H[a]?) : XwR D A P F B G n fd s H1 := ⟨hw.1, hw.2.1.kept (fun k q hq => hk q.1 (vx_lt hw.2.1 hq)), hw.2.2⟩
set_option maxHeartbeats 400000 in
set_option maxRecDepth 100000 in
/-- a new vehicle -/
theorem c_X10_make (l : Launch) (D : va_G) (A : Nat → Prop) (P : SwP) (F : Nat → Nat → Int32) (B G : Nat → Int32) (dk : List Nat) (sz k : Nat) (nu ma lo sh : Int32) (hk : k < 9) : Ct l yX10_make (.code yX10_make cX10_make 6 (some (.object "SwingBridge$Cart"))) ({ frames := 6, cells := 1, slots := 10, locals := 150 }) A [.ref (pS P), .int nu, .int (nI k), .int ma, .int lo, .int sh] (fun U => U.heap.size = sz ∧ Ev A U ∧ Xp D A P F B G dk U) (.inl (some (.ref sz))) (Xn D A P F B G dk sz k [.ref (pB P), .int nu, .int (nI k), .int ma, .int sh, .int lo, .int 0, .int 0, .int 0, .int 0]) := by
  refine ct_mk (by decide) (Nat.le_of_ble_eq_true rfl) (fun p e s m below meth c ls C hr hlocks hnm htab hP hl => ?_)
  obtain ⟨hsz, hE, hw⟩ := hP
  subst hsz
  have hS : va_S A s.heap s.heap [] := va_S.rf
  have hl : lv_has ls 6 [(0, .ref (pS P)), (1, .int nu), (2, .int (nI k)), (3, .int ma), (4, .int lo), (5, .int sh)] := hl
  refine lv_iload_n C.1 C.2.1 dX10_make_0 rfl (lv_at hl 2 rfl) ?_
  rcases (show k = 0 ∨ k = 1 ∨ k = 2 ∨ k = 3 ∨ k = 4 ∨ k = 5 ∨ k = 6 ∨ k = 7 ∨ k = 8 by omega) with rfl | rfl | rfl | rfl | rfl | rfl | rfl | rfl | rfl
  · have hP0 := hw
    refine lv_tableOut (tgt := 200) C.1 C.2.1 dX10_make_1 (Or.inl (by decide)) (by decide) ?_
    refine x_new (ci := 0) (fs := [.null, .int 0, .int 0, .int 0, .int 0, .int 0, .int 0, .int 0, .int 0, .int 0]) C tyX4 tyX4_ok inX4 rfl hw.1 tb_80 tb_296 tb_4 (fun j hj => by rcases (show j = 0 ∨ j = 1 ∨ j = 2 ∨ j = 3 ∨ j = 4 ∨ j = 5 ∨ j = 6 ∨ j = 7 ∨ j = 8 ∨ j = 9 by omega) with rfl | rfl | rfl | rfl | rfl | rfl | rfl | rfl | rfl | rfl <;> rfl) (Nat.le_of_ble_eq_true rfl) (Nat.le_of_ble_eq_true rfl) dX10_make_200 (fun H z1 o1 hn => ?_)
    have hS := S_new hS z1 o1
    have hw := x_keptA (A1 := A) hw o1
    refine lv_dup C.1 C.2.1 dX10_make_203 rfl ?_
    refine lv_aload_n C.1 C.2.1 dX10_make_204 rfl (lv_at hl 0 rfl) ?_
    refine xs_get C hw 0 (by decide) tb_81 rfl dX10_make_205 ?_
    refine lv_iload_n C.1 C.2.1 dX10_make_208 rfl (lv_at hl 1 rfl) ?_
    refine lv_iload_n C.1 C.2.1 dX10_make_209 rfl (lv_at hl 2 rfl) ?_
    refine lv_iload_n C.1 C.2.1 dX10_make_210 rfl (lv_at hl 3 rfl) ?_
    refine lv_iload C.1 C.2.1 dX10_make_211 (lv_at hl 4 rfl) ?_
    refine lv_iload C.1 C.2.1 dX10_make_213 (lv_at hl 5 rfl) ?_
    refine ct_ret (ct_I C (c_X4_init l D s.heap.size (pB P) 0 nu (nI 0) ma lo sh (by decide)) Vn_bl tb_109 tb_4 ⟨Nat.le_of_ble_eq_true rfl, Nat.le_of_ble_eq_true rfl⟩ tb_297 rfl ⟨by decide, by decide⟩ tb_108 (fun U hU hW => ⟨(va_K.moved hW.alike hw.1).sub [] rfl, by rw [hU]; exact hn⟩) (by show _ = some 6; decide +kernel) hl.1 rfl (Nat.le_of_ble_eq_true rfl) dX10_make_215 ⟨Nat.le_of_ble_eq_true rfl, Nat.le_of_ble_eq_true rfl⟩) hS (fun a h => by rw [h]; exact hE.1 _ (Nat.le_refl _)) (fun t H1 locs ht hvm hn1 hz2 hk2 hS => ?_)
    have hn1 := hn1.2
    rw [ht] at hn1
    have hw : XwR D A P F B G (nI dk.length) (dfd P dk) s H1 := ⟨hw.1, hP0.2.1.kept (fun k q hq => (hk2 q.1 (by have := vx_lt hP0.2.1 hq; omega) (fun h => by have := vx_lt hP0.2.1 hq; omega)).trans (o1 q.1 (vx_lt hP0.2.1 hq))), hw.2.2⟩
    exact ct_a (r := some s.heap.size) C hr (Or.inl ⟨_, rfl⟩) hlocks rfl (fun t ht hW => ⟨x_post hw ht hW, by rw [ht]; exact hn1⟩) hS (Nat.le_of_ble_eq_true rfl) (Nat.le_of_ble_eq_true rfl) dX10_make_218
  · have hP0 := hw
    refine lv_tableIn (tgt := 48) C.1 C.2.1 dX10_make_1 (by decide) (by decide) rfl (by decide) ?_
    refine x_new (ci := 1) (fs := [.null, .int 0, .int 0, .int 0, .int 0, .int 0, .int 0, .int 0, .int 0, .int 0]) C tyX4 tyX4_ok inX9 rfl hw.1 tb_102 tb_103 tb_5 (fun j hj => by rcases (show j = 0 ∨ j = 1 ∨ j = 2 ∨ j = 3 ∨ j = 4 ∨ j = 5 ∨ j = 6 ∨ j = 7 ∨ j = 8 ∨ j = 9 by omega) with rfl | rfl | rfl | rfl | rfl | rfl | rfl | rfl | rfl | rfl <;> rfl) (Nat.le_of_ble_eq_true rfl) (Nat.le_of_ble_eq_true rfl) dX10_make_48 (fun H z1 o1 hn => ?_)
    have hS := S_new hS z1 o1
    have hw := x_keptA (A1 := A) hw o1
    refine lv_dup C.1 C.2.1 dX10_make_51 rfl ?_
    refine lv_aload_n C.1 C.2.1 dX10_make_52 rfl (lv_at hl 0 rfl) ?_
    refine xs_get C hw 0 (by decide) tb_81 rfl dX10_make_53 ?_
    refine lv_iload_n C.1 C.2.1 dX10_make_56 rfl (lv_at hl 1 rfl) ?_
    refine lv_iload_n C.1 C.2.1 dX10_make_57 rfl (lv_at hl 2 rfl) ?_
    refine lv_iload_n C.1 C.2.1 dX10_make_58 rfl (lv_at hl 3 rfl) ?_
    refine lv_iload C.1 C.2.1 dX10_make_59 (lv_at hl 4 rfl) ?_
    refine lv_iload C.1 C.2.1 dX10_make_61 (lv_at hl 5 rfl) ?_
    refine ct_ret (ct_I C (c_X9_init l D s.heap.size (pB P) 1 nu (nI 1) ma lo sh (by decide)) Vn_bl tb_106 tb_5 ⟨Nat.le_of_ble_eq_true rfl, Nat.le_of_ble_eq_true rfl⟩ tb_104 rfl ⟨by decide, by decide⟩ tb_105 (fun U hU hW => ⟨(va_K.moved hW.alike hw.1).sub [] rfl, by rw [hU]; exact hn⟩) (by show _ = some 6; decide +kernel) hl.1 rfl (Nat.le_of_ble_eq_true rfl) dX10_make_63 ⟨Nat.le_of_ble_eq_true rfl, Nat.le_of_ble_eq_true rfl⟩) hS (fun a h => by rw [h]; exact hE.1 _ (Nat.le_refl _)) (fun t H1 locs ht hvm hn1 hz2 hk2 hS => ?_)
    have hn1 := hn1.2
    rw [ht] at hn1
    have hw : XwR D A P F B G (nI dk.length) (dfd P dk) s H1 := ⟨hw.1, hP0.2.1.kept (fun k q hq => (hk2 q.1 (by have := vx_lt hP0.2.1 hq; omega) (fun h => by have := vx_lt hP0.2.1 hq; omega)).trans (o1 q.1 (vx_lt hP0.2.1 hq))), hw.2.2⟩
    exact ct_a (r := some s.heap.size) C hr (Or.inl ⟨_, rfl⟩) hlocks rfl (fun t ht hW => ⟨x_post hw ht hW, by rw [ht]; exact hn1⟩) hS (Nat.le_of_ble_eq_true rfl) (Nat.le_of_ble_eq_true rfl) dX10_make_66
  · have hP0 := hw
    refine lv_tableIn (tgt := 67) C.1 C.2.1 dX10_make_1 (by decide) (by decide) rfl (by decide) ?_
    refine x_new (ci := 2) (fs := [.null, .int 0, .int 0, .int 0, .int 0, .int 0, .int 0, .int 0, .int 0, .int 0]) C tyX4 tyX4_ok inX3 rfl hw.1 tb_177 tb_178 tb_6 (fun j hj => by rcases (show j = 0 ∨ j = 1 ∨ j = 2 ∨ j = 3 ∨ j = 4 ∨ j = 5 ∨ j = 6 ∨ j = 7 ∨ j = 8 ∨ j = 9 by omega) with rfl | rfl | rfl | rfl | rfl | rfl | rfl | rfl | rfl | rfl <;> rfl) (Nat.le_of_ble_eq_true rfl) (Nat.le_of_ble_eq_true rfl) dX10_make_67 (fun H z1 o1 hn => ?_)
    have hS := S_new hS z1 o1
    have hw := x_keptA (A1 := A) hw o1
    refine lv_dup C.1 C.2.1 dX10_make_70 rfl ?_
    refine lv_aload_n C.1 C.2.1 dX10_make_71 rfl (lv_at hl 0 rfl) ?_
    refine xs_get C hw 0 (by decide) tb_81 rfl dX10_make_72 ?_
    refine lv_iload_n C.1 C.2.1 dX10_make_75 rfl (lv_at hl 1 rfl) ?_
    refine lv_iload_n C.1 C.2.1 dX10_make_76 rfl (lv_at hl 2 rfl) ?_
    refine lv_iload_n C.1 C.2.1 dX10_make_77 rfl (lv_at hl 3 rfl) ?_
    refine lv_iload C.1 C.2.1 dX10_make_78 (lv_at hl 4 rfl) ?_
    refine lv_iload C.1 C.2.1 dX10_make_80 (lv_at hl 5 rfl) ?_
    refine ct_ret (ct_I C (c_X3_init l D s.heap.size (pB P) 2 nu (nI 2) ma lo sh (by decide)) Vn_bl tb_181 tb_6 ⟨Nat.le_of_ble_eq_true rfl, Nat.le_of_ble_eq_true rfl⟩ tb_179 rfl ⟨by decide, by decide⟩ tb_180 (fun U hU hW => ⟨(va_K.moved hW.alike hw.1).sub [] rfl, by rw [hU]; exact hn⟩) (by show _ = some 6; decide +kernel) hl.1 rfl (Nat.le_of_ble_eq_true rfl) dX10_make_82 ⟨Nat.le_of_ble_eq_true rfl, Nat.le_of_ble_eq_true rfl⟩) hS (fun a h => by rw [h]; exact hE.1 _ (Nat.le_refl _)) (fun t H1 locs ht hvm hn1 hz2 hk2 hS => ?_)
    have hn1 := hn1.2
    rw [ht] at hn1
    have hw : XwR D A P F B G (nI dk.length) (dfd P dk) s H1 := ⟨hw.1, hP0.2.1.kept (fun k q hq => (hk2 q.1 (by have := vx_lt hP0.2.1 hq; omega) (fun h => by have := vx_lt hP0.2.1 hq; omega)).trans (o1 q.1 (vx_lt hP0.2.1 hq))), hw.2.2⟩
    exact ct_a (r := some s.heap.size) C hr (Or.inl ⟨_, rfl⟩) hlocks rfl (fun t ht hW => ⟨x_post hw ht hW, by rw [ht]; exact hn1⟩) hS (Nat.le_of_ble_eq_true rfl) (Nat.le_of_ble_eq_true rfl) dX10_make_85
  · have hP0 := hw
    refine lv_tableIn (tgt := 86) C.1 C.2.1 dX10_make_1 (by decide) (by decide) rfl (by decide) ?_
    refine x_new (ci := 3) (fs := [.null, .int 0, .int 0, .int 0, .int 0, .int 0, .int 0, .int 0, .int 0, .int 0]) C tyX4 tyX4_ok inX2 rfl hw.1 tb_194 tb_195 tb_7 (fun j hj => by rcases (show j = 0 ∨ j = 1 ∨ j = 2 ∨ j = 3 ∨ j = 4 ∨ j = 5 ∨ j = 6 ∨ j = 7 ∨ j = 8 ∨ j = 9 by omega) with rfl | rfl | rfl | rfl | rfl | rfl | rfl | rfl | rfl | rfl <;> rfl) (Nat.le_of_ble_eq_true rfl) (Nat.le_of_ble_eq_true rfl) dX10_make_86 (fun H z1 o1 hn => ?_)
    have hS := S_new hS z1 o1
    have hw := x_keptA (A1 := A) hw o1
    refine lv_dup C.1 C.2.1 dX10_make_89 rfl ?_
    refine lv_aload_n C.1 C.2.1 dX10_make_90 rfl (lv_at hl 0 rfl) ?_
    refine xs_get C hw 0 (by decide) tb_81 rfl dX10_make_91 ?_
    refine lv_iload_n C.1 C.2.1 dX10_make_94 rfl (lv_at hl 1 rfl) ?_
    refine lv_iload_n C.1 C.2.1 dX10_make_95 rfl (lv_at hl 2 rfl) ?_
    refine lv_iload_n C.1 C.2.1 dX10_make_96 rfl (lv_at hl 3 rfl) ?_
    refine lv_iload C.1 C.2.1 dX10_make_97 (lv_at hl 4 rfl) ?_
    refine lv_iload C.1 C.2.1 dX10_make_99 (lv_at hl 5 rfl) ?_
    refine ct_ret (ct_I C (c_X2_init l D s.heap.size (pB P) 3 nu (nI 3) ma lo sh (by decide)) Vn_bl tb_198 tb_7 ⟨Nat.le_of_ble_eq_true rfl, Nat.le_of_ble_eq_true rfl⟩ tb_196 rfl ⟨by decide, by decide⟩ tb_197 (fun U hU hW => ⟨(va_K.moved hW.alike hw.1).sub [] rfl, by rw [hU]; exact hn⟩) (by show _ = some 6; decide +kernel) hl.1 rfl (Nat.le_of_ble_eq_true rfl) dX10_make_101 ⟨Nat.le_of_ble_eq_true rfl, Nat.le_of_ble_eq_true rfl⟩) hS (fun a h => by rw [h]; exact hE.1 _ (Nat.le_refl _)) (fun t H1 locs ht hvm hn1 hz2 hk2 hS => ?_)
    have hn1 := hn1.2
    rw [ht] at hn1
    have hw : XwR D A P F B G (nI dk.length) (dfd P dk) s H1 := ⟨hw.1, hP0.2.1.kept (fun k q hq => (hk2 q.1 (by have := vx_lt hP0.2.1 hq; omega) (fun h => by have := vx_lt hP0.2.1 hq; omega)).trans (o1 q.1 (vx_lt hP0.2.1 hq))), hw.2.2⟩
    exact ct_a (r := some s.heap.size) C hr (Or.inl ⟨_, rfl⟩) hlocks rfl (fun t ht hW => ⟨x_post hw ht hW, by rw [ht]; exact hn1⟩) hS (Nat.le_of_ble_eq_true rfl) (Nat.le_of_ble_eq_true rfl) dX10_make_104
  · have hP0 := hw
    refine lv_tableIn (tgt := 105) C.1 C.2.1 dX10_make_1 (by decide) (by decide) rfl (by decide) ?_
    refine x_new (ci := 4) (fs := [.null, .int 0, .int 0, .int 0, .int 0, .int 0, .int 0, .int 0, .int 0, .int 0]) C tyX4 tyX4_ok inX7 rfl hw.1 tb_211 tb_212 tb_8 (fun j hj => by rcases (show j = 0 ∨ j = 1 ∨ j = 2 ∨ j = 3 ∨ j = 4 ∨ j = 5 ∨ j = 6 ∨ j = 7 ∨ j = 8 ∨ j = 9 by omega) with rfl | rfl | rfl | rfl | rfl | rfl | rfl | rfl | rfl | rfl <;> rfl) (Nat.le_of_ble_eq_true rfl) (Nat.le_of_ble_eq_true rfl) dX10_make_105 (fun H z1 o1 hn => ?_)
    have hS := S_new hS z1 o1
    have hw := x_keptA (A1 := A) hw o1
    refine lv_dup C.1 C.2.1 dX10_make_108 rfl ?_
    refine lv_aload_n C.1 C.2.1 dX10_make_109 rfl (lv_at hl 0 rfl) ?_
    refine xs_get C hw 0 (by decide) tb_81 rfl dX10_make_110 ?_
    refine lv_iload_n C.1 C.2.1 dX10_make_113 rfl (lv_at hl 1 rfl) ?_
    refine lv_iload_n C.1 C.2.1 dX10_make_114 rfl (lv_at hl 2 rfl) ?_
    refine lv_iload_n C.1 C.2.1 dX10_make_115 rfl (lv_at hl 3 rfl) ?_
    refine lv_iload C.1 C.2.1 dX10_make_116 (lv_at hl 4 rfl) ?_
    refine lv_iload C.1 C.2.1 dX10_make_118 (lv_at hl 5 rfl) ?_
    refine ct_ret (ct_I C (c_X7_init l D s.heap.size (pB P) 4 nu (nI 4) ma lo sh (by decide)) Vn_bl tb_215 tb_8 ⟨Nat.le_of_ble_eq_true rfl, Nat.le_of_ble_eq_true rfl⟩ tb_213 rfl ⟨by decide, by decide⟩ tb_214 (fun U hU hW => ⟨(va_K.moved hW.alike hw.1).sub [] rfl, by rw [hU]; exact hn⟩) (by show _ = some 6; decide +kernel) hl.1 rfl (Nat.le_of_ble_eq_true rfl) dX10_make_120 ⟨Nat.le_of_ble_eq_true rfl, Nat.le_of_ble_eq_true rfl⟩) hS (fun a h => by rw [h]; exact hE.1 _ (Nat.le_refl _)) (fun t H1 locs ht hvm hn1 hz2 hk2 hS => ?_)
    have hn1 := hn1.2
    rw [ht] at hn1
    have hw : XwR D A P F B G (nI dk.length) (dfd P dk) s H1 := ⟨hw.1, hP0.2.1.kept (fun k q hq => (hk2 q.1 (by have := vx_lt hP0.2.1 hq; omega) (fun h => by have := vx_lt hP0.2.1 hq; omega)).trans (o1 q.1 (vx_lt hP0.2.1 hq))), hw.2.2⟩
    exact ct_a (r := some s.heap.size) C hr (Or.inl ⟨_, rfl⟩) hlocks rfl (fun t ht hW => ⟨x_post hw ht hW, by rw [ht]; exact hn1⟩) hS (Nat.le_of_ble_eq_true rfl) (Nat.le_of_ble_eq_true rfl) dX10_make_123
  · have hP0 := hw
    refine lv_tableIn (tgt := 124) C.1 C.2.1 dX10_make_1 (by decide) (by decide) rfl (by decide) ?_
    refine x_new (ci := 5) (fs := [.null, .int 0, .int 0, .int 0, .int 0, .int 0, .int 0, .int 0, .int 0, .int 0]) C tyX4 tyX4_ok inX8 rfl hw.1 tb_228 tb_229 tb_9 (fun j hj => by rcases (show j = 0 ∨ j = 1 ∨ j = 2 ∨ j = 3 ∨ j = 4 ∨ j = 5 ∨ j = 6 ∨ j = 7 ∨ j = 8 ∨ j = 9 by omega) with rfl | rfl | rfl | rfl | rfl | rfl | rfl | rfl | rfl | rfl <;> rfl) (Nat.le_of_ble_eq_true rfl) (Nat.le_of_ble_eq_true rfl) dX10_make_124 (fun H z1 o1 hn => ?_)
    have hS := S_new hS z1 o1
    have hw := x_keptA (A1 := A) hw o1
    refine lv_dup C.1 C.2.1 dX10_make_127 rfl ?_
    refine lv_aload_n C.1 C.2.1 dX10_make_128 rfl (lv_at hl 0 rfl) ?_
    refine xs_get C hw 0 (by decide) tb_81 rfl dX10_make_129 ?_
    refine lv_iload_n C.1 C.2.1 dX10_make_132 rfl (lv_at hl 1 rfl) ?_
    refine lv_iload_n C.1 C.2.1 dX10_make_133 rfl (lv_at hl 2 rfl) ?_
    refine lv_iload_n C.1 C.2.1 dX10_make_134 rfl (lv_at hl 3 rfl) ?_
    refine lv_iload C.1 C.2.1 dX10_make_135 (lv_at hl 4 rfl) ?_
    refine lv_iload C.1 C.2.1 dX10_make_137 (lv_at hl 5 rfl) ?_
    refine ct_ret (ct_I C (c_X8_init l D s.heap.size (pB P) 5 nu (nI 5) ma lo sh (by decide)) Vn_bl tb_232 tb_9 ⟨Nat.le_of_ble_eq_true rfl, Nat.le_of_ble_eq_true rfl⟩ tb_230 rfl ⟨by decide, by decide⟩ tb_231 (fun U hU hW => ⟨(va_K.moved hW.alike hw.1).sub [] rfl, by rw [hU]; exact hn⟩) (by show _ = some 6; decide +kernel) hl.1 rfl (Nat.le_of_ble_eq_true rfl) dX10_make_139 ⟨Nat.le_of_ble_eq_true rfl, Nat.le_of_ble_eq_true rfl⟩) hS (fun a h => by rw [h]; exact hE.1 _ (Nat.le_refl _)) (fun t H1 locs ht hvm hn1 hz2 hk2 hS => ?_)
    have hn1 := hn1.2
    rw [ht] at hn1
    have hw : XwR D A P F B G (nI dk.length) (dfd P dk) s H1 := ⟨hw.1, hP0.2.1.kept (fun k q hq => (hk2 q.1 (by have := vx_lt hP0.2.1 hq; omega) (fun h => by have := vx_lt hP0.2.1 hq; omega)).trans (o1 q.1 (vx_lt hP0.2.1 hq))), hw.2.2⟩
    exact ct_a (r := some s.heap.size) C hr (Or.inl ⟨_, rfl⟩) hlocks rfl (fun t ht hW => ⟨x_post hw ht hW, by rw [ht]; exact hn1⟩) hS (Nat.le_of_ble_eq_true rfl) (Nat.le_of_ble_eq_true rfl) dX10_make_142
  · have hP0 := hw
    refine lv_tableIn (tgt := 143) C.1 C.2.1 dX10_make_1 (by decide) (by decide) rfl (by decide) ?_
    refine x_new (ci := 6) (fs := [.null, .int 0, .int 0, .int 0, .int 0, .int 0, .int 0, .int 0, .int 0, .int 0]) C tyX4 tyX4_ok inX1 rfl hw.1 tb_245 tb_246 tb_10 (fun j hj => by rcases (show j = 0 ∨ j = 1 ∨ j = 2 ∨ j = 3 ∨ j = 4 ∨ j = 5 ∨ j = 6 ∨ j = 7 ∨ j = 8 ∨ j = 9 by omega) with rfl | rfl | rfl | rfl | rfl | rfl | rfl | rfl | rfl | rfl <;> rfl) (Nat.le_of_ble_eq_true rfl) (Nat.le_of_ble_eq_true rfl) dX10_make_143 (fun H z1 o1 hn => ?_)
    have hS := S_new hS z1 o1
    have hw := x_keptA (A1 := A) hw o1
    refine lv_dup C.1 C.2.1 dX10_make_146 rfl ?_
    refine lv_aload_n C.1 C.2.1 dX10_make_147 rfl (lv_at hl 0 rfl) ?_
    refine xs_get C hw 0 (by decide) tb_81 rfl dX10_make_148 ?_
    refine lv_iload_n C.1 C.2.1 dX10_make_151 rfl (lv_at hl 1 rfl) ?_
    refine lv_iload_n C.1 C.2.1 dX10_make_152 rfl (lv_at hl 2 rfl) ?_
    refine lv_iload_n C.1 C.2.1 dX10_make_153 rfl (lv_at hl 3 rfl) ?_
    refine lv_iload C.1 C.2.1 dX10_make_154 (lv_at hl 4 rfl) ?_
    refine lv_iload C.1 C.2.1 dX10_make_156 (lv_at hl 5 rfl) ?_
    refine ct_ret (ct_I C (c_X1_init l D s.heap.size (pB P) 6 nu (nI 6) ma lo sh (by decide)) Vn_bl tb_249 tb_10 ⟨Nat.le_of_ble_eq_true rfl, Nat.le_of_ble_eq_true rfl⟩ tb_247 rfl ⟨by decide, by decide⟩ tb_248 (fun U hU hW => ⟨(va_K.moved hW.alike hw.1).sub [] rfl, by rw [hU]; exact hn⟩) (by show _ = some 6; decide +kernel) hl.1 rfl (Nat.le_of_ble_eq_true rfl) dX10_make_158 ⟨Nat.le_of_ble_eq_true rfl, Nat.le_of_ble_eq_true rfl⟩) hS (fun a h => by rw [h]; exact hE.1 _ (Nat.le_refl _)) (fun t H1 locs ht hvm hn1 hz2 hk2 hS => ?_)
    have hn1 := hn1.2
    rw [ht] at hn1
    have hw : XwR D A P F B G (nI dk.length) (dfd P dk) s H1 := ⟨hw.1, hP0.2.1.kept (fun k q hq => (hk2 q.1 (by have := vx_lt hP0.2.1 hq; omega) (fun h => by have := vx_lt hP0.2.1 hq; omega)).trans (o1 q.1 (vx_lt hP0.2.1 hq))), hw.2.2⟩
    exact ct_a (r := some s.heap.size) C hr (Or.inl ⟨_, rfl⟩) hlocks rfl (fun t ht hW => ⟨x_post hw ht hW, by rw [ht]; exact hn1⟩) hS (Nat.le_of_ble_eq_true rfl) (Nat.le_of_ble_eq_true rfl) dX10_make_161
  · have hP0 := hw
    refine lv_tableIn (tgt := 162) C.1 C.2.1 dX10_make_1 (by decide) (by decide) rfl (by decide) ?_
    refine x_new (ci := 7) (fs := [.null, .int 0, .int 0, .int 0, .int 0, .int 0, .int 0, .int 0, .int 0, .int 0]) C tyX4 tyX4_ok inX6 rfl hw.1 tb_262 tb_263 tb_11 (fun j hj => by rcases (show j = 0 ∨ j = 1 ∨ j = 2 ∨ j = 3 ∨ j = 4 ∨ j = 5 ∨ j = 6 ∨ j = 7 ∨ j = 8 ∨ j = 9 by omega) with rfl | rfl | rfl | rfl | rfl | rfl | rfl | rfl | rfl | rfl <;> rfl) (Nat.le_of_ble_eq_true rfl) (Nat.le_of_ble_eq_true rfl) dX10_make_162 (fun H z1 o1 hn => ?_)
    have hS := S_new hS z1 o1
    have hw := x_keptA (A1 := A) hw o1
    refine lv_dup C.1 C.2.1 dX10_make_165 rfl ?_
    refine lv_aload_n C.1 C.2.1 dX10_make_166 rfl (lv_at hl 0 rfl) ?_
    refine xs_get C hw 0 (by decide) tb_81 rfl dX10_make_167 ?_
    refine lv_iload_n C.1 C.2.1 dX10_make_170 rfl (lv_at hl 1 rfl) ?_
    refine lv_iload_n C.1 C.2.1 dX10_make_171 rfl (lv_at hl 2 rfl) ?_
    refine lv_iload_n C.1 C.2.1 dX10_make_172 rfl (lv_at hl 3 rfl) ?_
    refine lv_iload C.1 C.2.1 dX10_make_173 (lv_at hl 4 rfl) ?_
    refine lv_iload C.1 C.2.1 dX10_make_175 (lv_at hl 5 rfl) ?_
    refine ct_ret (ct_I C (c_X6_init l D s.heap.size (pB P) 7 nu (nI 7) ma lo sh (by decide)) Vn_bl tb_266 tb_11 ⟨Nat.le_of_ble_eq_true rfl, Nat.le_of_ble_eq_true rfl⟩ tb_264 rfl ⟨by decide, by decide⟩ tb_265 (fun U hU hW => ⟨(va_K.moved hW.alike hw.1).sub [] rfl, by rw [hU]; exact hn⟩) (by show _ = some 6; decide +kernel) hl.1 rfl (Nat.le_of_ble_eq_true rfl) dX10_make_177 ⟨Nat.le_of_ble_eq_true rfl, Nat.le_of_ble_eq_true rfl⟩) hS (fun a h => by rw [h]; exact hE.1 _ (Nat.le_refl _)) (fun t H1 locs ht hvm hn1 hz2 hk2 hS => ?_)
    have hn1 := hn1.2
    rw [ht] at hn1
    have hw : XwR D A P F B G (nI dk.length) (dfd P dk) s H1 := ⟨hw.1, hP0.2.1.kept (fun k q hq => (hk2 q.1 (by have := vx_lt hP0.2.1 hq; omega) (fun h => by have := vx_lt hP0.2.1 hq; omega)).trans (o1 q.1 (vx_lt hP0.2.1 hq))), hw.2.2⟩
    exact ct_a (r := some s.heap.size) C hr (Or.inl ⟨_, rfl⟩) hlocks rfl (fun t ht hW => ⟨x_post hw ht hW, by rw [ht]; exact hn1⟩) hS (Nat.le_of_ble_eq_true rfl) (Nat.le_of_ble_eq_true rfl) dX10_make_180
  · have hP0 := hw
    refine lv_tableIn (tgt := 181) C.1 C.2.1 dX10_make_1 (by decide) (by decide) rfl (by decide) ?_
    refine x_new (ci := 8) (fs := [.null, .int 0, .int 0, .int 0, .int 0, .int 0, .int 0, .int 0, .int 0, .int 0]) C tyX4 tyX4_ok inX5 rfl hw.1 tb_279 tb_280 tb_12 (fun j hj => by rcases (show j = 0 ∨ j = 1 ∨ j = 2 ∨ j = 3 ∨ j = 4 ∨ j = 5 ∨ j = 6 ∨ j = 7 ∨ j = 8 ∨ j = 9 by omega) with rfl | rfl | rfl | rfl | rfl | rfl | rfl | rfl | rfl | rfl <;> rfl) (Nat.le_of_ble_eq_true rfl) (Nat.le_of_ble_eq_true rfl) dX10_make_181 (fun H z1 o1 hn => ?_)
    have hS := S_new hS z1 o1
    have hw := x_keptA (A1 := A) hw o1
    refine lv_dup C.1 C.2.1 dX10_make_184 rfl ?_
    refine lv_aload_n C.1 C.2.1 dX10_make_185 rfl (lv_at hl 0 rfl) ?_
    refine xs_get C hw 0 (by decide) tb_81 rfl dX10_make_186 ?_
    refine lv_iload_n C.1 C.2.1 dX10_make_189 rfl (lv_at hl 1 rfl) ?_
    refine lv_iload_n C.1 C.2.1 dX10_make_190 rfl (lv_at hl 2 rfl) ?_
    refine lv_iload_n C.1 C.2.1 dX10_make_191 rfl (lv_at hl 3 rfl) ?_
    refine lv_iload C.1 C.2.1 dX10_make_192 (lv_at hl 4 rfl) ?_
    refine lv_iload C.1 C.2.1 dX10_make_194 (lv_at hl 5 rfl) ?_
    refine ct_ret (ct_I C (c_X5_init l D s.heap.size (pB P) 8 nu (nI 8) ma lo sh (by decide)) Vn_bl tb_283 tb_12 ⟨Nat.le_of_ble_eq_true rfl, Nat.le_of_ble_eq_true rfl⟩ tb_281 rfl ⟨by decide, by decide⟩ tb_282 (fun U hU hW => ⟨(va_K.moved hW.alike hw.1).sub [] rfl, by rw [hU]; exact hn⟩) (by show _ = some 6; decide +kernel) hl.1 rfl (Nat.le_of_ble_eq_true rfl) dX10_make_196 ⟨Nat.le_of_ble_eq_true rfl, Nat.le_of_ble_eq_true rfl⟩) hS (fun a h => by rw [h]; exact hE.1 _ (Nat.le_refl _)) (fun t H1 locs ht hvm hn1 hz2 hk2 hS => ?_)
    have hn1 := hn1.2
    rw [ht] at hn1
    have hw : XwR D A P F B G (nI dk.length) (dfd P dk) s H1 := ⟨hw.1, hP0.2.1.kept (fun k q hq => (hk2 q.1 (by have := vx_lt hP0.2.1 hq; omega) (fun h => by have := vx_lt hP0.2.1 hq; omega)).trans (o1 q.1 (vx_lt hP0.2.1 hq))), hw.2.2⟩
    exact ct_a (r := some s.heap.size) C hr (Or.inl ⟨_, rfl⟩) hlocks rfl (fun t ht hW => ⟨x_post hw ht hW, by rw [ht]; exact hn1⟩) hS (Nat.le_of_ble_eq_true rfl) (Nat.le_of_ble_eq_true rfl) dX10_make_199
