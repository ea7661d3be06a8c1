/-! CONSTRUCTORS of the object, its bridge, the reference -/
def zF : Nat → Nat → Int32 := fun _ _ => 0
def zB : Nat → Int32 := fun _ => 0
def zG : Nat → Int32 := fun k => match k with | 3 => 9000 | 4 => 1 | _ => 0
abbrev nwA (q sz : Nat) : Nat → Prop := fun a => a = q ∨ sz ≤ a
/-- a new object of class k at q, and nothing else of ours -/
abbrev Nw0 (D : va_G) (q sz k : Nat) (fs : List Value) : State → Prop := fun U => U.heap.size = sz ∧ va_AO RX4 U ∧ va_K D sCl [] U ∧ va_P D sCl [(q, .inr (k, fs))] U.heap
theorem Nw0_bl {D : va_G} {q sz k : Nat} {fs : List Value} : Bl (Nw0 D q sz k fs) := fun U g mk a h => ⟨h.1, va_AO.moved (u := U) (U := U.calling g mk a) (Vm.Alike.refl U.vm) h.2.1, va_K.moved (u := U) (U := U.calling g mk a) (Vm.Alike.refl U.vm) h.2.2.1, h.2.2.2⟩
theorem ra_i {D : va_G} {s : State} {tys : List (ClassId × FieldType)} {a b i j : Nat} (hK : va_K D sCl tys s) (h1 : tys[i]? = some (a, .int)) (h2 : tys[j]? = some (b, .int)) : b = a := Option.some.inj (((hK.2 j _ h2).2 : s.vm.findClass ("[" ++ FieldType.int.toString) = some b).symm.trans ((hK.2 i _ h1).2 : s.vm.findClass ("[" ++ FieldType.int.toString) = some a))
theorem ra_o {D : va_G} {s : State} {tys : List (ClassId × FieldType)} {a b i j : Nat} {CN : String} (hK : va_K D sCl tys s) (h1 : tys[i]? = some (a, .object CN)) (h2 : tys[j]? = some (b, .object CN)) : b = a := by
  obtain ⟨-, -, -, -, -, e1⟩ := (hK.2 i _ h1).2
  obtain ⟨-, -, -, -, -, e2⟩ := (hK.2 j _ h2).2
  exact Option.some.inj (e2.symm.trans e1)
/-- the bridge's cells as it is new -/
abbrev brW (q dq nq cR cI : Nat) : va_W := [(q, .inr (9, [.ref dq, .ref nq, .int 0, .int 9000, .int 1, .int 0, .int 0])), (dq, .inl (cR, 24, .inr (.inr (.inr (.inr (fun _ => none)))))), (nq, .inl (cI, 9, .inl zB))]
set_option maxHeartbeats 400000 in
set_option maxRecDepth 100000 in
/-- the constructor -/
theorem c_X0_init (l : Launch) (D : va_G) (q sz : Nat) : Ct l yX0_init (.code yX0_init cX0_init 1 none) ({ frames := 1, cells := 2, slots := 33, locals := 12 }) (nwA q sz) [.ref q] (Nw0 D q sz 9 [.null, .null, .int 0, .int 0, .int 0, .int 0, .int 0]) (.inl none) (fun U => ∃ dq nq cR cI : Nat, va_K D sCl [(cR, .object RX4), (cI, .int)] U ∧ va_P D sCl (brW q dq nq cR cI) U.heap ∧ va_D (nwA q sz) (brW q dq nq cR cI)) := by
  refine ct_mk (by decide) (Nat.le_of_ble_eq_true rfl) (fun p e s m below meth c ls C hr hlocks hnm htab hP hl => ?_)
  obtain ⟨hsz, hAO, hK, hP⟩ := hP
  subst hsz
  have hS : va_S (nwA q s.heap.size) s.heap s.heap [] := va_S.rf
  have hA : ∀ a : Nat, s.heap.size ≤ a → nwA q s.heap.size a := fun _ h => Or.inr h
  have hD : va_D (nwA q s.heap.size) [(q, (.inr (9, [.null, .null, .int 0, .int 0, .int 0, .int 0, .int 0]) : va_E))] := vn_D.weaken (fun _ _ _ h => Or.inl h)
  have hl : lv_has ls 1 [(0, .ref q)] := hl
  refine lv_aload_n C.1 C.2.1 dX0_init_0 rfl (lv_at hl 0 rfl) ?_
  refine W.objInit C.1 C.2.1 C.2.2.2.1 (C.2.2.2.2 _ tb_32) (C.2.2.2.2 _ tb_25) (C.2.2.2.2 _ h_oi) rfl (by rw [C.2.2.1]; exact hl.1) rfl dX0_init_1 (Nat.le_of_ble_eq_true rfl) (Nat.le_of_ble_eq_true rfl) ?_
  refine W.eq (g2 := F0 m 4 ls []) rfl ?_
  refine lv_aload_n C.1 C.2.1 dX0_init_4 rfl (lv_at hl 0 rfl) ?_
  refine lv_bipush (v := 24) C.1 C.2.1 dX0_init_5 (by decide) ?_
  refine va_newq (C := RX4) C.1 C.2.1 C.2.2.2.1 (C.2.2.2.2 _ tb_33) hAO hK hP hD hS hA (by decide) (N' := 24) (by decide) (by decide) (Nat.le_of_ble_eq_true rfl) (Nat.le_of_ble_eq_true rfl) dX0_init_7 (fun a1 cA H hK hP hD hS => ?_)
  obtain ⟨cR, rfl⟩ : ∃ x, x = cA := ⟨_, rfl⟩
  refine va_putF (D := D) (ci := 9) (v := .ref a1) (ty := .array (.object "SwingBridge$Cart")) (C := RX0) (T := TX0) (N := 7) (ref := (TX0 0).1) C.1 C.2.1 C.2.2.2.2 inX0 tyX0 tyX0_ok nmX0 C.2.2.2.1 hK hP hD hS 0 rfl rfl 0 (by decide) (C.2.2.2.2 _ tb_35) (fun x hx => hx) rfl hnm rfl (by decide +kernel) rfl rfl (Nat.le_of_ble_eq_true rfl) dX0_init_10 (fun H locs hP hD hS => ?_)
  refine lv_aload_n C.1 C.2.1 dX0_init_13 rfl (lv_at hl 0 rfl) ?_
  refine lv_bipush (v := 9) C.1 C.2.1 dX0_init_14 (by decide) ?_
  refine va_newa (atype := .int) (ty := .int) (a0 := (9, .inl (fun _ => 0))) C.1 C.2.1 (C.2.2.2.2 _ tb_79) rfl hK hP hD hS hA (fun cA => by rfl) (by decide) (N' := 9) (by decide) (by decide) (Nat.le_of_ble_eq_true rfl) (Nat.le_of_ble_eq_true rfl) dX0_init_16 (fun a2 cA H hK hP hD hS => ?_)
  obtain ⟨cI, rfl⟩ : ∃ x, x = cA := ⟨_, rfl⟩
  refine va_putF (D := D) (ci := 9) (v := .ref a2) (ty := .array .int) (C := RX0) (T := TX0) (N := 7) (ref := (TX0 1).1) C.1 C.2.1 C.2.2.2.2 inX0 tyX0 tyX0_ok nmX0 C.2.2.2.1 hK hP hD hS 0 rfl rfl 1 (by decide) (C.2.2.2.2 _ tb_37) (fun x hx => hx) rfl hnm rfl (by decide +kernel) rfl rfl (Nat.le_of_ble_eq_true rfl) dX0_init_18 (fun H locs hP hD hS => ?_)
  refine lv_aload_n C.1 C.2.1 dX0_init_21 rfl (lv_at hl 0 rfl) ?_
  refine lv_iconst (v := 0) C.1 C.2.1 dX0_init_22 (by decide) ?_
  refine va_put (D := D) (ci := 9) (v := .int 0) (ty := .int) (C := RX0) (T := TX0) (N := 7) (ref := (TX0 2).1) C.1 C.2.1 C.2.2.2.2 inX0 tyX0 tyX0_ok nmX0 C.2.2.2.1 hK hP hD hS 0 rfl rfl 2 (by decide) (C.2.2.2.2 _ tb_47) (fun x hx => hx) rfl (by decide +kernel) rfl rfl (Nat.le_of_ble_eq_true rfl) dX0_init_23 (fun H locs hP hD hS => ?_)
  refine lv_aload_n C.1 C.2.1 dX0_init_26 rfl (lv_at hl 0 rfl) ?_
  refine lv_sipush (v := 9000) C.1 C.2.1 dX0_init_27 (by decide) ?_
  refine va_put (D := D) (ci := 9) (v := .int 9000) (ty := .int) (C := RX0) (T := TX0) (N := 7) (ref := (TX0 3).1) C.1 C.2.1 C.2.2.2.2 inX0 tyX0 tyX0_ok nmX0 C.2.2.2.1 hK hP hD hS 0 rfl rfl 3 (by decide) (C.2.2.2.2 _ tb_50) (fun x hx => hx) rfl (by decide +kernel) rfl rfl (Nat.le_of_ble_eq_true rfl) dX0_init_30 (fun H locs hP hD hS => ?_)
  refine lv_aload_n C.1 C.2.1 dX0_init_33 rfl (lv_at hl 0 rfl) ?_
  refine lv_iconst (v := 1) C.1 C.2.1 dX0_init_34 (by decide) ?_
  refine va_put (D := D) (ci := 9) (v := .int 1) (ty := .boolean) (C := RX0) (T := TX0) (N := 7) (ref := (TX0 4).1) C.1 C.2.1 C.2.2.2.2 inX0 tyX0 tyX0_ok nmX0 C.2.2.2.1 hK hP hD hS 0 rfl rfl 4 (by decide) (C.2.2.2.2 _ tb_54) (fun x hx => hx) rfl (by decide +kernel) rfl rfl (Nat.le_of_ble_eq_true rfl) dX0_init_35 (fun H locs hP hD hS => ?_)
  refine lv_aload_n C.1 C.2.1 dX0_init_38 rfl (lv_at hl 0 rfl) ?_
  refine lv_iconst (v := 0) C.1 C.2.1 dX0_init_39 (by decide) ?_
  refine va_put (D := D) (ci := 9) (v := .int 0) (ty := .int) (C := RX0) (T := TX0) (N := 7) (ref := (TX0 5).1) C.1 C.2.1 C.2.2.2.2 inX0 tyX0 tyX0_ok nmX0 C.2.2.2.1 hK hP hD hS 0 rfl rfl 5 (by decide) (C.2.2.2.2 _ tb_58) (fun x hx => hx) rfl (by decide +kernel) rfl rfl (Nat.le_of_ble_eq_true rfl) dX0_init_40 (fun H locs hP hD hS => ?_)
  refine lv_aload_n C.1 C.2.1 dX0_init_43 rfl (lv_at hl 0 rfl) ?_
  refine lv_iconst (v := 0) C.1 C.2.1 dX0_init_44 (by decide) ?_
  refine va_put (D := D) (ci := 9) (v := .int 0) (ty := .int) (C := RX0) (T := TX0) (N := 7) (ref := (TX0 6).1) C.1 C.2.1 C.2.2.2.2 inX0 tyX0 tyX0_ok nmX0 C.2.2.2.1 hK hP hD hS 0 rfl rfl 6 (by decide) (C.2.2.2.2 _ tb_61) (fun x hx => hx) rfl (by decide +kernel) rfl rfl (Nat.le_of_ble_eq_true rfl) dX0_init_45 (fun H locs hP hD hS => ?_)
  exact ct_v C hr hlocks rfl (fun t ht hW => ⟨a1, a2, cR, cI, va_K.moved hW.alike hK, by rw [ht]; exact hP, hD⟩) hS (Nat.le_of_ble_eq_true rfl) (Nat.le_of_ble_eq_true rfl) dX0_init_48
theorem vfd_0 {P : SwP} (h : pn P = 0) : vfd P = fun _ => none := by
  funext k
  unfold vfd
  rw [h]
  exact if_neg (Nat.not_lt_zero k)
theorem dfd_0 {P : SwP} : dfd P [] = fun _ => none := by
  funext k
  unfold dfd
  simp
theorem inv_0 {P : SwP} (h : pn P = 0) : Inv P (zF, zB, zG, []) := ⟨⟨by omega, fun j hj => absurd hj (by omega), fun j hj => absurd hj (by omega), fun v hv => absurd hv List.not_mem_nil, List.nodup_nil⟩, Or.inr rfl, fun j hj => absurd hj List.not_mem_nil, fun j hj => absurd hj (by omega), fun _ => rfl, ⟨9000, Nat.le_refl _, rfl⟩, fun j hj => absurd hj (by omega), fun _ _ _ => rfl⟩
set_option maxHeartbeats 400000 in
set_option maxRecDepth 100000 in
/-- the constructor -/
theorem c_X10_init (l : Launch) (D : va_G) (q sz : Nat) : Ct l yX10_init (.code yX10_init cX10_init 1 none) ({ frames := 2, cells := 4, slots := 64, locals := 40 }) (nwA q sz) [.ref q] (Nw0 D q sz 10 [.null, .null, .int 0]) (.inl none) (fun U => ∃ P : SwP, pS P = q ∧ pn P = 0 ∧ Xp D (nwA q sz) P zF zB zG [] U) := by
  refine ct_mk (by decide) (Nat.le_of_ble_eq_true rfl) (fun p e s m below meth c ls C hr hlocks hnm htab hP hl => ?_)
  obtain ⟨hsz, hAO, hK, hP⟩ := hP
  subst hsz
  have hS : va_S (nwA q s.heap.size) s.heap s.heap [] := va_S.rf
  have hA : ∀ a : Nat, s.heap.size ≤ a → nwA q s.heap.size a := fun _ h => Or.inr h
  have hD : va_D (nwA q s.heap.size) [(q, (.inr (10, [.null, .null, .int 0]) : va_E))] := vn_D.weaken (fun _ _ _ h => Or.inl h)
  have hl : lv_has ls 1 [(0, .ref q)] := hl
  refine lv_aload_n C.1 C.2.1 dX10_init_0 rfl (lv_at hl 0 rfl) ?_
  refine W.objInit C.1 C.2.1 C.2.2.2.1 (C.2.2.2.2 _ tb_24) (C.2.2.2.2 _ tb_25) (C.2.2.2.2 _ h_oi) rfl (by rw [C.2.2.1]; exact hl.1) rfl dX10_init_1 (Nat.le_of_ble_eq_true rfl) (Nat.le_of_ble_eq_true rfl) ?_
  refine W.eq (g2 := F0 m 4 ls []) rfl ?_
  refine lv_aload_n C.1 C.2.1 dX10_init_4 rfl (lv_at hl 0 rfl) ?_
  refine va_new (ci := 9) (fs := [.null, .null, .int 0, .int 0, .int 0, .int 0, .int 0]) (C := RX0) (T := TX0) (N := 7) C.1 C.2.1 C.2.2.2.2 inX0 tyX0 tyX0_ok C.2.2.2.1 (C.2.2.2.2 _ tb_27) (C.2.2.2.2 _ tb_28) (C.2.2.2.2 _ tb_2) hK hP hD hS hA rfl (fun j hj => by rcases (show j = 0 ∨ j = 1 ∨ j = 2 ∨ j = 3 ∨ j = 4 ∨ j = 5 ∨ j = 6 by omega) with rfl | rfl | rfl | rfl | rfl | rfl | rfl <;> rfl) (Nat.le_of_ble_eq_true rfl) (Nat.le_of_ble_eq_true rfl) dX10_init_5 (fun qb H hP hD hS => ?_)
  refine lv_dup C.1 C.2.1 dX10_init_8 rfl ?_
  have hqb : qb < H.size := vx_lt hP (k := 1) rfl
  have hq : q < H.size := vx_lt hP (k := 0) rfl
  have hne : q ≠ qb := fun z => absurd (hD.1 0 1 _ _ rfl rfl z) (by decide)
  have hAq := hD.2 0 _ rfl
  have hAb := hD.2 1 _ rfl
  refine ct_ret (ct_I C (c_X0_init l D qb H.size) Nw0_bl tb_31 tb_2 ⟨Nat.le_of_ble_eq_true rfl, Nat.le_of_ble_eq_true rfl⟩ tb_29 rfl ⟨by decide, by decide⟩ tb_30 (fun U hU hW => ⟨by rw [hU], va_AO.moved hW.alike hAO, va_K.moved hW.alike hK, by rw [hU]; exact hP.sub [1] rfl⟩) (by show _ = some 0; decide +kernel) hl.1 rfl (Nat.le_of_ble_eq_true rfl) dX10_init_9 ⟨Nat.le_of_ble_eq_true rfl, Nat.le_of_ble_eq_true rfl⟩) hS (fun a h => by rcases h with h | h; rw [h]; exact hAb; exact hA a (Nat.le_trans hS.1 h)) (fun t H1 locs ht hvm hn1 hz2 hk2 hS => ?_)
  obtain ⟨dq, nq, cR, cI, hK1, hP1, hD1⟩ := hn1
  have hK := va_K.moved hvm.symm hK1
  rw [ht] at hP1
  have hqn : ¬ nwA qb H.size q := fun z => z.elim hne (fun z => absurd hq (by omega))
  have hP : va_P D sCl ([(q, .inr (10, [.null, .null, .int 0]))] ++ brW qb dq nq cR cI) H1 := ((hP.sub [0] rfl).kept (fun k x hx => by
    have e1 : k < 1 := (List.getElem?_eq_some_iff.mp hx).1
    rw [show k = 0 by omega] at hx
    cases hx
    exact hk2 q hq hqn)).app hP1
  have hD : va_D (nwA q s.heap.size) ([(q, .inr (10, [.null, .null, .int 0]))] ++ brW qb dq nq cR cI) := (hD.sub (ws' := [(q, .inr (10, [.null, .null, .int 0]))]) [0] (by decide) rfl).app (hD1.weaken (fun _ x _ h => by rcases h with h | h; rw [h]; exact hAb; exact hA _ (by have := vx_lt hP (k := 1) rfl; have := hS.1; omega))) (fun i j x y hx hy hxy => by
    have e1 : i < 1 := (List.getElem?_eq_some_iff.mp hx).1
    rw [show i = 0 by omega] at hx
    cases hx
    exact hqn (by rw [show q = y.1 from hxy]; exact hD1.2 j y hy))
  refine va_putF (D := D) (ci := 10) (v := .ref qb) (ty := .object "SwingBridge$Bridge") (C := RX10) (T := TX10) (N := 3) (ref := (TX10 0).1) C.1 C.2.1 C.2.2.2.2 inX10 tyX10 tyX10_ok nmX10 C.2.2.2.1 hK hP hD hS 0 rfl rfl 0 (by decide) (C.2.2.2.2 _ tb_81) (fun x hx => hx) rfl hnm rfl (by decide +kernel) rfl rfl (Nat.le_of_ble_eq_true rfl) dX10_init_12 (fun H locs hP hD hS => ?_)
  refine lv_aload_n C.1 C.2.1 dX10_init_15 rfl (lv_at hl 0 rfl) ?_
  refine lv_bipush (v := 24) C.1 C.2.1 dX10_init_16 (by decide) ?_
  refine va_newq (C := RX4) C.1 C.2.1 C.2.2.2.1 (C.2.2.2.2 _ tb_80) hAO hK hP hD hS hA (by decide) (N' := 24) (by decide) (by decide) (Nat.le_of_ble_eq_true rfl) (Nat.le_of_ble_eq_true rfl) dX10_init_18 (fun a1 cA H hK hP hD hS => ?_)
  obtain rfl : cA = cR := ra_o hK (i := 0) (j := 2) rfl rfl
  refine va_putF (D := D) (ci := 10) (v := .ref a1) (ty := .array (.object "SwingBridge$Cart")) (C := RX10) (T := TX10) (N := 3) (ref := (TX10 1).1) C.1 C.2.1 C.2.2.2.2 inX10 tyX10 tyX10_ok nmX10 C.2.2.2.1 hK hP hD hS 0 rfl rfl 1 (by decide) (C.2.2.2.2 _ tb_82) (fun x hx => hx) rfl hnm rfl (by decide +kernel) rfl rfl (Nat.le_of_ble_eq_true rfl) dX10_init_21 (fun H locs hP hD hS => ?_)
  refine lv_aload_n C.1 C.2.1 dX10_init_24 rfl (lv_at hl 0 rfl) ?_
  refine lv_iconst (v := 0) C.1 C.2.1 dX10_init_25 (by decide) ?_
  refine va_put (D := D) (ci := 10) (v := .int 0) (ty := .int) (C := RX10) (T := TX10) (N := 3) (ref := (TX10 2).1) C.1 C.2.1 C.2.2.2.2 inX10 tyX10 tyX10_ok nmX10 C.2.2.2.1 hK hP hD hS 0 rfl rfl 2 (by decide) (C.2.2.2.2 _ tb_83) (fun x hx => hx) rfl (by decide +kernel) rfl rfl (Nat.le_of_ble_eq_true rfl) dX10_init_26 (fun H locs hP hD hS => ?_)
  have hP := hP.sub (ws' := [(q, .inr (10, [.ref qb, .ref a1, .int 0])), (qb, .inr (9, [.ref dq, .ref nq, .int 0, .int 9000, .int 1, .int 0, .int 0])), (a1, .inl (cA, 24, .inr (.inr (.inr (.inr (fun _ => none)))))), (dq, .inl (cA, 24, .inr (.inr (.inr (.inr (fun _ => none)))))), (nq, .inl (cI, 9, .inl zB))]) [0, 1, 4, 2, 3] rfl
  have hD := hD.sub (ws' := [(q, .inr (10, [.ref qb, .ref a1, .int 0])), (qb, .inr (9, [.ref dq, .ref nq, .int 0, .int 9000, .int 1, .int 0, .int 0])), (a1, .inl (cA, 24, .inr (.inr (.inr (.inr (fun _ => none)))))), (dq, .inl (cA, 24, .inr (.inr (.inr (.inr (fun _ => none)))))), (nq, .inl (cI, 9, .inl zB))]) [0, 1, 4, 2, 3] (by decide) rfl
  have hK := hK.sub (tys' := [(cA, .object RX4), (cI, .int)]) [0, 1] rfl
  obtain ⟨P, eP⟩ : ∃ P : SwP, P = (fun j => match j with | 0 => q | 1 => qb | 2 => a1 | 3 => dq | 4 => nq | 5 => cA | 6 => cI | _ => 0, fun _ => 0, fun _ => 0) := ⟨_, rfl⟩
  have hn0 : pn P = 0 := by rw [eP]; rfl
  have hws : xws P zF zB zG (nI 0) (dfd P []) = [(q, .inr (10, [.ref qb, .ref a1, .int 0])), (qb, .inr (9, [.ref dq, .ref nq, .int 0, .int 9000, .int 1, .int 0, .int 0])), (a1, .inl (cA, 24, .inr (.inr (.inr (.inr (fun _ => none)))))), (dq, .inl (cA, 24, .inr (.inr (.inr (.inr (fun _ => none)))))), (nq, .inl (cI, 9, .inl zB))] := by
    unfold xws xfix
    rw [vfd_0 hn0, dfd_0, hn0, eP]
    rfl
  have hw : XwR D (nwA q s.heap.size) P zF zB zG (nI ([] : List Nat).length) (dfd P []) s H := ⟨by rw [eP]; exact hK, by rw [show nI ([] : List Nat).length = nI 0 from rfl, hws]; exact hP, by rw [show nI ([] : List Nat).length = nI 0 from rfl, hws]; exact hD⟩
  exact ct_v C hr hlocks rfl (fun t ht hW => ⟨P, by rw [eP]; rfl, hn0, x_post hw ht hW⟩) hS (Nat.le_of_ble_eq_true rfl) (Nat.le_of_ble_eq_true rfl) dX10_init_29
set_option maxHeartbeats 400000 in
set_option maxRecDepth 100000 in
/-- the constructor -/
theorem c_X11_init (l : Launch) (D : va_G) (q sz : Nat) : Ct l yX11_init (.code yX11_init cX11_init 1 none) ({ frames := 1, cells := 10, slots := 225, locals := 12 }) (nwA q sz) [.ref q] (Nw0 D q sz 11 [.int 0, .int 0, .null, .null, .null, .null, .null, .null, .null, .null, .null, .int 0, .null, .int 0, .int 0, .int 0, .int 0, .int 0]) (.inl none) (fun U => ∃ (qs : Nat → Nat) (cI : Nat), qs 0 = q ∧ Mz D (nwA q sz) qs cI 0 zF zB zG [] 0 U) := by
  refine ct_mk (by decide) (Nat.le_of_ble_eq_true rfl) (fun p e s m below meth c ls C hr hlocks hnm htab hP hl => ?_)
  obtain ⟨hsz, hAO, hK, hP⟩ := hP
  subst hsz
  have hS : va_S (nwA q s.heap.size) s.heap s.heap [] := va_S.rf
  have hA : ∀ a : Nat, s.heap.size ≤ a → nwA q s.heap.size a := fun _ h => Or.inr h
  have hD : va_D (nwA q s.heap.size) [(q, (.inr (11, [.int 0, .int 0, .null, .null, .null, .null, .null, .null, .null, .null, .null, .int 0, .null, .int 0, .int 0, .int 0, .int 0, .int 0]) : va_E))] := vn_D.weaken (fun _ _ _ h => Or.inl h)
  have hl : lv_has ls 1 [(0, .ref q)] := hl
  refine lv_aload_n C.1 C.2.1 dX11_init_0 rfl (lv_at hl 0 rfl) ?_
  refine W.objInit C.1 C.2.1 C.2.2.2.1 (C.2.2.2.2 _ tb_707) (C.2.2.2.2 _ tb_25) (C.2.2.2.2 _ h_oi) rfl (by rw [C.2.2.1]; exact hl.1) rfl dX11_init_1 (Nat.le_of_ble_eq_true rfl) (Nat.le_of_ble_eq_true rfl) ?_
  refine W.eq (g2 := F0 m 4 ls []) rfl ?_
  refine lv_aload_n C.1 C.2.1 dX11_init_4 rfl (lv_at hl 0 rfl) ?_
  refine lv_bipush (v := 24) C.1 C.2.1 dX11_init_5 (by decide) ?_
  refine va_newa (atype := .int) (ty := .int) (a0 := (24, .inl (fun _ => 0))) C.1 C.2.1 (C.2.2.2.2 _ tb_79) rfl hK hP hD hS hA (fun cA => by rfl) (by decide) (N' := 24) (by decide) (by decide) (Nat.le_of_ble_eq_true rfl) (Nat.le_of_ble_eq_true rfl) dX11_init_7 (fun a1 cA H hK hP hD hS => ?_)
  obtain ⟨cI, rfl⟩ : ∃ x, x = cA := ⟨_, rfl⟩
  have hK := hK.sub (tys' := [(cI, .int)]) [0] rfl
  refine va_putF (D := D) (ci := 11) (v := .ref a1) (ty := .array .int) (C := RX11) (T := TX11) (N := 18) (ref := (TX11 2).1) C.1 C.2.1 C.2.2.2.2 inX11 tyX11 tyX11_ok nmX11 C.2.2.2.1 hK hP hD hS 0 rfl rfl 2 (by decide) (C.2.2.2.2 _ tb_710) (fun x hx => hx) rfl hnm rfl (by decide +kernel) rfl rfl (Nat.le_of_ble_eq_true rfl) dX11_init_9 (fun H locs hP hD hS => ?_)
  have hP : va_P D sCl [(q, (.inr (11, [.int 0, .int 0, .ref a1, .null, .null, .null, .null, .null, .null, .null, .null, .int 0, .null, .int 0, .int 0, .int 0, .int 0, .int 0]) : va_E)), (a1, .inl (cI, 24, .inl (fun _ => 0)))] H := hP
  have hD : va_D (nwA q s.heap.size) [(q, (.inr (11, [.int 0, .int 0, .ref a1, .null, .null, .null, .null, .null, .null, .null, .null, .int 0, .null, .int 0, .int 0, .int 0, .int 0, .int 0]) : va_E)), (a1, .inl (cI, 24, .inl (fun _ => 0)))] := hD
  refine lv_aload_n C.1 C.2.1 dX11_init_12 rfl (lv_at hl 0 rfl) ?_
  refine lv_bipush (v := 24) C.1 C.2.1 dX11_init_13 (by decide) ?_
  refine va_newa (atype := .int) (ty := .int) (a0 := (24, .inl (fun _ => 0))) C.1 C.2.1 (C.2.2.2.2 _ tb_79) rfl hK hP hD hS hA (fun cA => by rfl) (by decide) (N' := 24) (by decide) (by decide) (Nat.le_of_ble_eq_true rfl) (Nat.le_of_ble_eq_true rfl) dX11_init_15 (fun a2 cA H hK hP hD hS => ?_)
  obtain rfl := ra_i hK (i := 0) (j := 1) rfl rfl
  have hK := hK.sub (tys' := [(cA, .int)]) [0] rfl
  refine va_putF (D := D) (ci := 11) (v := .ref a2) (ty := .array .int) (C := RX11) (T := TX11) (N := 18) (ref := (TX11 3).1) C.1 C.2.1 C.2.2.2.2 inX11 tyX11 tyX11_ok nmX11 C.2.2.2.1 hK hP hD hS 0 rfl rfl 3 (by decide) (C.2.2.2.2 _ tb_711) (fun x hx => hx) rfl hnm rfl (by decide +kernel) rfl rfl (Nat.le_of_ble_eq_true rfl) dX11_init_17 (fun H locs hP hD hS => ?_)
  have hP : va_P D sCl [(q, (.inr (11, [.int 0, .int 0, .ref a1, .ref a2, .null, .null, .null, .null, .null, .null, .null, .int 0, .null, .int 0, .int 0, .int 0, .int 0, .int 0]) : va_E)), (a1, .inl (cA, 24, .inl (fun _ => 0))), (a2, .inl (cA, 24, .inl (fun _ => 0)))] H := hP
  have hD : va_D (nwA q s.heap.size) [(q, (.inr (11, [.int 0, .int 0, .ref a1, .ref a2, .null, .null, .null, .null, .null, .null, .null, .int 0, .null, .int 0, .int 0, .int 0, .int 0, .int 0]) : va_E)), (a1, .inl (cA, 24, .inl (fun _ => 0))), (a2, .inl (cA, 24, .inl (fun _ => 0)))] := hD
  refine lv_aload_n C.1 C.2.1 dX11_init_20 rfl (lv_at hl 0 rfl) ?_
  refine lv_bipush (v := 24) C.1 C.2.1 dX11_init_21 (by decide) ?_
  refine va_newa (atype := .int) (ty := .int) (a0 := (24, .inl (fun _ => 0))) C.1 C.2.1 (C.2.2.2.2 _ tb_79) rfl hK hP hD hS hA (fun cA => by rfl) (by decide) (N' := 24) (by decide) (by decide) (Nat.le_of_ble_eq_true rfl) (Nat.le_of_ble_eq_true rfl) dX11_init_23 (fun a3 cA H hK hP hD hS => ?_)
  obtain rfl := ra_i hK (i := 0) (j := 1) rfl rfl
  have hK := hK.sub (tys' := [(cA, .int)]) [0] rfl
  refine va_putF (D := D) (ci := 11) (v := .ref a3) (ty := .array .int) (C := RX11) (T := TX11) (N := 18) (ref := (TX11 4).1) C.1 C.2.1 C.2.2.2.2 inX11 tyX11 tyX11_ok nmX11 C.2.2.2.1 hK hP hD hS 0 rfl rfl 4 (by decide) (C.2.2.2.2 _ tb_712) (fun x hx => hx) rfl hnm rfl (by decide +kernel) rfl rfl (Nat.le_of_ble_eq_true rfl) dX11_init_25 (fun H locs hP hD hS => ?_)
  have hP : va_P D sCl [(q, (.inr (11, [.int 0, .int 0, .ref a1, .ref a2, .ref a3, .null, .null, .null, .null, .null, .null, .int 0, .null, .int 0, .int 0, .int 0, .int 0, .int 0]) : va_E)), (a1, .inl (cA, 24, .inl (fun _ => 0))), (a2, .inl (cA, 24, .inl (fun _ => 0))), (a3, .inl (cA, 24, .inl (fun _ => 0)))] H := hP
  have hD : va_D (nwA q s.heap.size) [(q, (.inr (11, [.int 0, .int 0, .ref a1, .ref a2, .ref a3, .null, .null, .null, .null, .null, .null, .int 0, .null, .int 0, .int 0, .int 0, .int 0, .int 0]) : va_E)), (a1, .inl (cA, 24, .inl (fun _ => 0))), (a2, .inl (cA, 24, .inl (fun _ => 0))), (a3, .inl (cA, 24, .inl (fun _ => 0)))] := hD
  refine lv_aload_n C.1 C.2.1 dX11_init_28 rfl (lv_at hl 0 rfl) ?_
  refine lv_bipush (v := 24) C.1 C.2.1 dX11_init_29 (by decide) ?_
  refine va_newa (atype := .int) (ty := .int) (a0 := (24, .inl (fun _ => 0))) C.1 C.2.1 (C.2.2.2.2 _ tb_79) rfl hK hP hD hS hA (fun cA => by rfl) (by decide) (N' := 24) (by decide) (by decide) (Nat.le_of_ble_eq_true rfl) (Nat.le_of_ble_eq_true rfl) dX11_init_31 (fun a4 cA H hK hP hD hS => ?_)
  obtain rfl := ra_i hK (i := 0) (j := 1) rfl rfl
  have hK := hK.sub (tys' := [(cA, .int)]) [0] rfl
  refine va_putF (D := D) (ci := 11) (v := .ref a4) (ty := .array .int) (C := RX11) (T := TX11) (N := 18) (ref := (TX11 5).1) C.1 C.2.1 C.2.2.2.2 inX11 tyX11 tyX11_ok nmX11 C.2.2.2.1 hK hP hD hS 0 rfl rfl 5 (by decide) (C.2.2.2.2 _ tb_713) (fun x hx => hx) rfl hnm rfl (by decide +kernel) rfl rfl (Nat.le_of_ble_eq_true rfl) dX11_init_33 (fun H locs hP hD hS => ?_)
  have hP : va_P D sCl [(q, (.inr (11, [.int 0, .int 0, .ref a1, .ref a2, .ref a3, .ref a4, .null, .null, .null, .null, .null, .int 0, .null, .int 0, .int 0, .int 0, .int 0, .int 0]) : va_E)), (a1, .inl (cA, 24, .inl (fun _ => 0))), (a2, .inl (cA, 24, .inl (fun _ => 0))), (a3, .inl (cA, 24, .inl (fun _ => 0))), (a4, .inl (cA, 24, .inl (fun _ => 0)))] H := hP
  have hD : va_D (nwA q s.heap.size) [(q, (.inr (11, [.int 0, .int 0, .ref a1, .ref a2, .ref a3, .ref a4, .null, .null, .null, .null, .null, .int 0, .null, .int 0, .int 0, .int 0, .int 0, .int 0]) : va_E)), (a1, .inl (cA, 24, .inl (fun _ => 0))), (a2, .inl (cA, 24, .inl (fun _ => 0))), (a3, .inl (cA, 24, .inl (fun _ => 0))), (a4, .inl (cA, 24, .inl (fun _ => 0)))] := hD
  refine lv_aload_n C.1 C.2.1 dX11_init_36 rfl (lv_at hl 0 rfl) ?_
  refine lv_bipush (v := 24) C.1 C.2.1 dX11_init_37 (by decide) ?_
  refine va_newa (atype := .int) (ty := .int) (a0 := (24, .inl (fun _ => 0))) C.1 C.2.1 (C.2.2.2.2 _ tb_79) rfl hK hP hD hS hA (fun cA => by rfl) (by decide) (N' := 24) (by decide) (by decide) (Nat.le_of_ble_eq_true rfl) (Nat.le_of_ble_eq_true rfl) dX11_init_39 (fun a5 cA H hK hP hD hS => ?_)
  obtain rfl := ra_i hK (i := 0) (j := 1) rfl rfl
  have hK := hK.sub (tys' := [(cA, .int)]) [0] rfl
  refine va_putF (D := D) (ci := 11) (v := .ref a5) (ty := .array .int) (C := RX11) (T := TX11) (N := 18) (ref := (TX11 6).1) C.1 C.2.1 C.2.2.2.2 inX11 tyX11 tyX11_ok nmX11 C.2.2.2.1 hK hP hD hS 0 rfl rfl 6 (by decide) (C.2.2.2.2 _ tb_714) (fun x hx => hx) rfl hnm rfl (by decide +kernel) rfl rfl (Nat.le_of_ble_eq_true rfl) dX11_init_41 (fun H locs hP hD hS => ?_)
  have hP : va_P D sCl [(q, (.inr (11, [.int 0, .int 0, .ref a1, .ref a2, .ref a3, .ref a4, .ref a5, .null, .null, .null, .null, .int 0, .null, .int 0, .int 0, .int 0, .int 0, .int 0]) : va_E)), (a1, .inl (cA, 24, .inl (fun _ => 0))), (a2, .inl (cA, 24, .inl (fun _ => 0))), (a3, .inl (cA, 24, .inl (fun _ => 0))), (a4, .inl (cA, 24, .inl (fun _ => 0))), (a5, .inl (cA, 24, .inl (fun _ => 0)))] H := hP
  have hD : va_D (nwA q s.heap.size) [(q, (.inr (11, [.int 0, .int 0, .ref a1, .ref a2, .ref a3, .ref a4, .ref a5, .null, .null, .null, .null, .int 0, .null, .int 0, .int 0, .int 0, .int 0, .int 0]) : va_E)), (a1, .inl (cA, 24, .inl (fun _ => 0))), (a2, .inl (cA, 24, .inl (fun _ => 0))), (a3, .inl (cA, 24, .inl (fun _ => 0))), (a4, .inl (cA, 24, .inl (fun _ => 0))), (a5, .inl (cA, 24, .inl (fun _ => 0)))] := hD
  refine lv_aload_n C.1 C.2.1 dX11_init_44 rfl (lv_at hl 0 rfl) ?_
  refine lv_bipush (v := 24) C.1 C.2.1 dX11_init_45 (by decide) ?_
  refine va_newa (atype := .int) (ty := .int) (a0 := (24, .inl (fun _ => 0))) C.1 C.2.1 (C.2.2.2.2 _ tb_79) rfl hK hP hD hS hA (fun cA => by rfl) (by decide) (N' := 24) (by decide) (by decide) (Nat.le_of_ble_eq_true rfl) (Nat.le_of_ble_eq_true rfl) dX11_init_47 (fun a6 cA H hK hP hD hS => ?_)
  obtain rfl := ra_i hK (i := 0) (j := 1) rfl rfl
  have hK := hK.sub (tys' := [(cA, .int)]) [0] rfl
  refine va_putF (D := D) (ci := 11) (v := .ref a6) (ty := .array .int) (C := RX11) (T := TX11) (N := 18) (ref := (TX11 7).1) C.1 C.2.1 C.2.2.2.2 inX11 tyX11 tyX11_ok nmX11 C.2.2.2.1 hK hP hD hS 0 rfl rfl 7 (by decide) (C.2.2.2.2 _ tb_715) (fun x hx => hx) rfl hnm rfl (by decide +kernel) rfl rfl (Nat.le_of_ble_eq_true rfl) dX11_init_49 (fun H locs hP hD hS => ?_)
  have hP : va_P D sCl [(q, (.inr (11, [.int 0, .int 0, .ref a1, .ref a2, .ref a3, .ref a4, .ref a5, .ref a6, .null, .null, .null, .int 0, .null, .int 0, .int 0, .int 0, .int 0, .int 0]) : va_E)), (a1, .inl (cA, 24, .inl (fun _ => 0))), (a2, .inl (cA, 24, .inl (fun _ => 0))), (a3, .inl (cA, 24, .inl (fun _ => 0))), (a4, .inl (cA, 24, .inl (fun _ => 0))), (a5, .inl (cA, 24, .inl (fun _ => 0))), (a6, .inl (cA, 24, .inl (fun _ => 0)))] H := hP
  have hD : va_D (nwA q s.heap.size) [(q, (.inr (11, [.int 0, .int 0, .ref a1, .ref a2, .ref a3, .ref a4, .ref a5, .ref a6, .null, .null, .null, .int 0, .null, .int 0, .int 0, .int 0, .int 0, .int 0]) : va_E)), (a1, .inl (cA, 24, .inl (fun _ => 0))), (a2, .inl (cA, 24, .inl (fun _ => 0))), (a3, .inl (cA, 24, .inl (fun _ => 0))), (a4, .inl (cA, 24, .inl (fun _ => 0))), (a5, .inl (cA, 24, .inl (fun _ => 0))), (a6, .inl (cA, 24, .inl (fun _ => 0)))] := hD
  refine lv_aload_n C.1 C.2.1 dX11_init_52 rfl (lv_at hl 0 rfl) ?_
  refine lv_bipush (v := 24) C.1 C.2.1 dX11_init_53 (by decide) ?_
  refine va_newa (atype := .int) (ty := .int) (a0 := (24, .inl (fun _ => 0))) C.1 C.2.1 (C.2.2.2.2 _ tb_79) rfl hK hP hD hS hA (fun cA => by rfl) (by decide) (N' := 24) (by decide) (by decide) (Nat.le_of_ble_eq_true rfl) (Nat.le_of_ble_eq_true rfl) dX11_init_55 (fun a7 cA H hK hP hD hS => ?_)
  obtain rfl := ra_i hK (i := 0) (j := 1) rfl rfl
  have hK := hK.sub (tys' := [(cA, .int)]) [0] rfl
  refine va_putF (D := D) (ci := 11) (v := .ref a7) (ty := .array .int) (C := RX11) (T := TX11) (N := 18) (ref := (TX11 8).1) C.1 C.2.1 C.2.2.2.2 inX11 tyX11 tyX11_ok nmX11 C.2.2.2.1 hK hP hD hS 0 rfl rfl 8 (by decide) (C.2.2.2.2 _ tb_716) (fun x hx => hx) rfl hnm rfl (by decide +kernel) rfl rfl (Nat.le_of_ble_eq_true rfl) dX11_init_57 (fun H locs hP hD hS => ?_)
  have hP : va_P D sCl [(q, (.inr (11, [.int 0, .int 0, .ref a1, .ref a2, .ref a3, .ref a4, .ref a5, .ref a6, .ref a7, .null, .null, .int 0, .null, .int 0, .int 0, .int 0, .int 0, .int 0]) : va_E)), (a1, .inl (cA, 24, .inl (fun _ => 0))), (a2, .inl (cA, 24, .inl (fun _ => 0))), (a3, .inl (cA, 24, .inl (fun _ => 0))), (a4, .inl (cA, 24, .inl (fun _ => 0))), (a5, .inl (cA, 24, .inl (fun _ => 0))), (a6, .inl (cA, 24, .inl (fun _ => 0))), (a7, .inl (cA, 24, .inl (fun _ => 0)))] H := hP
  have hD : va_D (nwA q s.heap.size) [(q, (.inr (11, [.int 0, .int 0, .ref a1, .ref a2, .ref a3, .ref a4, .ref a5, .ref a6, .ref a7, .null, .null, .int 0, .null, .int 0, .int 0, .int 0, .int 0, .int 0]) : va_E)), (a1, .inl (cA, 24, .inl (fun _ => 0))), (a2, .inl (cA, 24, .inl (fun _ => 0))), (a3, .inl (cA, 24, .inl (fun _ => 0))), (a4, .inl (cA, 24, .inl (fun _ => 0))), (a5, .inl (cA, 24, .inl (fun _ => 0))), (a6, .inl (cA, 24, .inl (fun _ => 0))), (a7, .inl (cA, 24, .inl (fun _ => 0)))] := hD
  refine lv_aload_n C.1 C.2.1 dX11_init_60 rfl (lv_at hl 0 rfl) ?_
  refine lv_bipush (v := 24) C.1 C.2.1 dX11_init_61 (by decide) ?_
  refine va_newa (atype := .int) (ty := .int) (a0 := (24, .inl (fun _ => 0))) C.1 C.2.1 (C.2.2.2.2 _ tb_79) rfl hK hP hD hS hA (fun cA => by rfl) (by decide) (N' := 24) (by decide) (by decide) (Nat.le_of_ble_eq_true rfl) (Nat.le_of_ble_eq_true rfl) dX11_init_63 (fun a8 cA H hK hP hD hS => ?_)
  obtain rfl := ra_i hK (i := 0) (j := 1) rfl rfl
  have hK := hK.sub (tys' := [(cA, .int)]) [0] rfl
  refine va_putF (D := D) (ci := 11) (v := .ref a8) (ty := .array .int) (C := RX11) (T := TX11) (N := 18) (ref := (TX11 9).1) C.1 C.2.1 C.2.2.2.2 inX11 tyX11 tyX11_ok nmX11 C.2.2.2.1 hK hP hD hS 0 rfl rfl 9 (by decide) (C.2.2.2.2 _ tb_717) (fun x hx => hx) rfl hnm rfl (by decide +kernel) rfl rfl (Nat.le_of_ble_eq_true rfl) dX11_init_65 (fun H locs hP hD hS => ?_)
  have hP : va_P D sCl [(q, (.inr (11, [.int 0, .int 0, .ref a1, .ref a2, .ref a3, .ref a4, .ref a5, .ref a6, .ref a7, .ref a8, .null, .int 0, .null, .int 0, .int 0, .int 0, .int 0, .int 0]) : va_E)), (a1, .inl (cA, 24, .inl (fun _ => 0))), (a2, .inl (cA, 24, .inl (fun _ => 0))), (a3, .inl (cA, 24, .inl (fun _ => 0))), (a4, .inl (cA, 24, .inl (fun _ => 0))), (a5, .inl (cA, 24, .inl (fun _ => 0))), (a6, .inl (cA, 24, .inl (fun _ => 0))), (a7, .inl (cA, 24, .inl (fun _ => 0))), (a8, .inl (cA, 24, .inl (fun _ => 0)))] H := hP
  have hD : va_D (nwA q s.heap.size) [(q, (.inr (11, [.int 0, .int 0, .ref a1, .ref a2, .ref a3, .ref a4, .ref a5, .ref a6, .ref a7, .ref a8, .null, .int 0, .null, .int 0, .int 0, .int 0, .int 0, .int 0]) : va_E)), (a1, .inl (cA, 24, .inl (fun _ => 0))), (a2, .inl (cA, 24, .inl (fun _ => 0))), (a3, .inl (cA, 24, .inl (fun _ => 0))), (a4, .inl (cA, 24, .inl (fun _ => 0))), (a5, .inl (cA, 24, .inl (fun _ => 0))), (a6, .inl (cA, 24, .inl (fun _ => 0))), (a7, .inl (cA, 24, .inl (fun _ => 0))), (a8, .inl (cA, 24, .inl (fun _ => 0)))] := hD
  refine lv_aload_n C.1 C.2.1 dX11_init_68 rfl (lv_at hl 0 rfl) ?_
  refine lv_bipush (v := 24) C.1 C.2.1 dX11_init_69 (by decide) ?_
  refine va_newa (atype := .int) (ty := .int) (a0 := (24, .inl (fun _ => 0))) C.1 C.2.1 (C.2.2.2.2 _ tb_79) rfl hK hP hD hS hA (fun cA => by rfl) (by decide) (N' := 24) (by decide) (by decide) (Nat.le_of_ble_eq_true rfl) (Nat.le_of_ble_eq_true rfl) dX11_init_71 (fun a9 cA H hK hP hD hS => ?_)
  obtain rfl := ra_i hK (i := 0) (j := 1) rfl rfl
  have hK := hK.sub (tys' := [(cA, .int)]) [0] rfl
  refine va_putF (D := D) (ci := 11) (v := .ref a9) (ty := .array .int) (C := RX11) (T := TX11) (N := 18) (ref := (TX11 10).1) C.1 C.2.1 C.2.2.2.2 inX11 tyX11 tyX11_ok nmX11 C.2.2.2.1 hK hP hD hS 0 rfl rfl 10 (by decide) (C.2.2.2.2 _ tb_718) (fun x hx => hx) rfl hnm rfl (by decide +kernel) rfl rfl (Nat.le_of_ble_eq_true rfl) dX11_init_73 (fun H locs hP hD hS => ?_)
  have hP : va_P D sCl [(q, (.inr (11, [.int 0, .int 0, .ref a1, .ref a2, .ref a3, .ref a4, .ref a5, .ref a6, .ref a7, .ref a8, .ref a9, .int 0, .null, .int 0, .int 0, .int 0, .int 0, .int 0]) : va_E)), (a1, .inl (cA, 24, .inl (fun _ => 0))), (a2, .inl (cA, 24, .inl (fun _ => 0))), (a3, .inl (cA, 24, .inl (fun _ => 0))), (a4, .inl (cA, 24, .inl (fun _ => 0))), (a5, .inl (cA, 24, .inl (fun _ => 0))), (a6, .inl (cA, 24, .inl (fun _ => 0))), (a7, .inl (cA, 24, .inl (fun _ => 0))), (a8, .inl (cA, 24, .inl (fun _ => 0))), (a9, .inl (cA, 24, .inl (fun _ => 0)))] H := hP
  have hD : va_D (nwA q s.heap.size) [(q, (.inr (11, [.int 0, .int 0, .ref a1, .ref a2, .ref a3, .ref a4, .ref a5, .ref a6, .ref a7, .ref a8, .ref a9, .int 0, .null, .int 0, .int 0, .int 0, .int 0, .int 0]) : va_E)), (a1, .inl (cA, 24, .inl (fun _ => 0))), (a2, .inl (cA, 24, .inl (fun _ => 0))), (a3, .inl (cA, 24, .inl (fun _ => 0))), (a4, .inl (cA, 24, .inl (fun _ => 0))), (a5, .inl (cA, 24, .inl (fun _ => 0))), (a6, .inl (cA, 24, .inl (fun _ => 0))), (a7, .inl (cA, 24, .inl (fun _ => 0))), (a8, .inl (cA, 24, .inl (fun _ => 0))), (a9, .inl (cA, 24, .inl (fun _ => 0)))] := hD
  refine lv_aload_n C.1 C.2.1 dX11_init_76 rfl (lv_at hl 0 rfl) ?_
  refine lv_bipush (v := 9) C.1 C.2.1 dX11_init_77 (by decide) ?_
  refine va_newa (atype := .int) (ty := .int) (a0 := (9, .inl (fun _ => 0))) C.1 C.2.1 (C.2.2.2.2 _ tb_79) rfl hK hP hD hS hA (fun cA => by rfl) (by decide) (N' := 9) (by decide) (by decide) (Nat.le_of_ble_eq_true rfl) (Nat.le_of_ble_eq_true rfl) dX11_init_79 (fun a10 cA H hK hP hD hS => ?_)
  obtain rfl := ra_i hK (i := 0) (j := 1) rfl rfl
  have hK := hK.sub (tys' := [(cA, .int)]) [0] rfl
  refine va_putF (D := D) (ci := 11) (v := .ref a10) (ty := .array .int) (C := RX11) (T := TX11) (N := 18) (ref := (TX11 12).1) C.1 C.2.1 C.2.2.2.2 inX11 tyX11 tyX11_ok nmX11 C.2.2.2.1 hK hP hD hS 0 rfl rfl 12 (by decide) (C.2.2.2.2 _ tb_720) (fun x hx => hx) rfl hnm rfl (by decide +kernel) rfl rfl (Nat.le_of_ble_eq_true rfl) dX11_init_81 (fun H locs hP hD hS => ?_)
  have hP : va_P D sCl [(q, (.inr (11, [.int 0, .int 0, .ref a1, .ref a2, .ref a3, .ref a4, .ref a5, .ref a6, .ref a7, .ref a8, .ref a9, .int 0, .ref a10, .int 0, .int 0, .int 0, .int 0, .int 0]) : va_E)), (a1, .inl (cA, 24, .inl (fun _ => 0))), (a2, .inl (cA, 24, .inl (fun _ => 0))), (a3, .inl (cA, 24, .inl (fun _ => 0))), (a4, .inl (cA, 24, .inl (fun _ => 0))), (a5, .inl (cA, 24, .inl (fun _ => 0))), (a6, .inl (cA, 24, .inl (fun _ => 0))), (a7, .inl (cA, 24, .inl (fun _ => 0))), (a8, .inl (cA, 24, .inl (fun _ => 0))), (a9, .inl (cA, 24, .inl (fun _ => 0))), (a10, .inl (cA, 9, .inl (fun _ => 0)))] H := hP
  have hD : va_D (nwA q s.heap.size) [(q, (.inr (11, [.int 0, .int 0, .ref a1, .ref a2, .ref a3, .ref a4, .ref a5, .ref a6, .ref a7, .ref a8, .ref a9, .int 0, .ref a10, .int 0, .int 0, .int 0, .int 0, .int 0]) : va_E)), (a1, .inl (cA, 24, .inl (fun _ => 0))), (a2, .inl (cA, 24, .inl (fun _ => 0))), (a3, .inl (cA, 24, .inl (fun _ => 0))), (a4, .inl (cA, 24, .inl (fun _ => 0))), (a5, .inl (cA, 24, .inl (fun _ => 0))), (a6, .inl (cA, 24, .inl (fun _ => 0))), (a7, .inl (cA, 24, .inl (fun _ => 0))), (a8, .inl (cA, 24, .inl (fun _ => 0))), (a9, .inl (cA, 24, .inl (fun _ => 0))), (a10, .inl (cA, 9, .inl (fun _ => 0)))] := hD
  refine lv_aload_n C.1 C.2.1 dX11_init_84 rfl (lv_at hl 0 rfl) ?_
  refine lv_sipush (v := 9000) C.1 C.2.1 dX11_init_85 (by decide) ?_
  refine va_put (D := D) (ci := 11) (v := .int 9000) (ty := .int) (C := RX11) (T := TX11) (N := 18) (ref := (TX11 13).1) C.1 C.2.1 C.2.2.2.2 inX11 tyX11 tyX11_ok nmX11 C.2.2.2.1 hK hP hD hS 0 rfl rfl 13 (by decide) (C.2.2.2.2 _ tb_721) (fun x hx => hx) rfl (by decide +kernel) rfl rfl (Nat.le_of_ble_eq_true rfl) dX11_init_88 (fun H locs hP hD hS => ?_)
  have hP : va_P D sCl [(q, (.inr (11, [.int 0, .int 0, .ref a1, .ref a2, .ref a3, .ref a4, .ref a5, .ref a6, .ref a7, .ref a8, .ref a9, .int 0, .ref a10, .int 9000, .int 0, .int 0, .int 0, .int 0]) : va_E)), (a1, .inl (cA, 24, .inl (fun _ => 0))), (a2, .inl (cA, 24, .inl (fun _ => 0))), (a3, .inl (cA, 24, .inl (fun _ => 0))), (a4, .inl (cA, 24, .inl (fun _ => 0))), (a5, .inl (cA, 24, .inl (fun _ => 0))), (a6, .inl (cA, 24, .inl (fun _ => 0))), (a7, .inl (cA, 24, .inl (fun _ => 0))), (a8, .inl (cA, 24, .inl (fun _ => 0))), (a9, .inl (cA, 24, .inl (fun _ => 0))), (a10, .inl (cA, 9, .inl (fun _ => 0)))] H := hP
  have hD : va_D (nwA q s.heap.size) [(q, (.inr (11, [.int 0, .int 0, .ref a1, .ref a2, .ref a3, .ref a4, .ref a5, .ref a6, .ref a7, .ref a8, .ref a9, .int 0, .ref a10, .int 9000, .int 0, .int 0, .int 0, .int 0]) : va_E)), (a1, .inl (cA, 24, .inl (fun _ => 0))), (a2, .inl (cA, 24, .inl (fun _ => 0))), (a3, .inl (cA, 24, .inl (fun _ => 0))), (a4, .inl (cA, 24, .inl (fun _ => 0))), (a5, .inl (cA, 24, .inl (fun _ => 0))), (a6, .inl (cA, 24, .inl (fun _ => 0))), (a7, .inl (cA, 24, .inl (fun _ => 0))), (a8, .inl (cA, 24, .inl (fun _ => 0))), (a9, .inl (cA, 24, .inl (fun _ => 0))), (a10, .inl (cA, 9, .inl (fun _ => 0)))] := hD
  obtain ⟨qs, eq⟩ : ∃ qs : Nat → Nat, qs = (fun j => match j with | 0 => q | 2 => a1 | 3 => a2 | 4 => a3 | 5 => a4 | 6 => a5 | 7 => a6 | 8 => a7 | 9 => a8 | 10 => a9 | 12 => a10 | _ => 0) := ⟨_, rfl⟩
  have hw : MwR D (nwA q s.heap.size) qs cA 0 zF zB zG (nI ([] : List Nat).length) (fun _ => 0) 0 0 s H := by rw [eq]; exact ⟨hK, hP, hD⟩
  exact ct_v C hr hlocks rfl (fun t ht hW => ⟨qs, cA, by rw [eq]; rfl, mz_mk (fun k v hv => by simp at hv) hw ht hW⟩) hS (Nat.le_of_ble_eq_true rfl) (Nat.le_of_ble_eq_true rfl) dX11_init_91
