set_option maxHeartbeats 4000000 in
set_option maxRecDepth 100000 in
/-- CART: MASS -/
theorem c_X4_weightAct (l : Launch) (D : va_G) (A : Nat → Prop) (P : SwP) (F : Nat → Nat → Int32) (B G : Nat → Int32) (dk : List Nat) (i : Nat) (hi : i < pn P) (hk : pk P i < 9) : Ct l yX4_weightAct (.code yX4_weightAct cX4_weightAct 1 (some .int)) { frames := 0, cells := 0, slots := 0, locals := 0 } A ([.ref (pa P i)]) (Xp D A P F B G dk) (.inl (some (.int (F i 3)))) (Xp D A P F (iB B 0) G dk) := by
  refine ct_mk (by decide) (Nat.le_of_ble_eq_true rfl) (fun p e s m below meth c ls C hr hlocks hnm htab hP hl => ?_)
  have hw := hP
  have hS : va_S A s.heap s.heap [] := va_S.rf
  have hl : lv_has ls 1 [(0, .ref (pa P i))] := hl
  refine x_begun C hw hi hk tb_111 (Or.inl rfl) tb_38 (lv_at hl 0 rfl) dX4_weightAct_0 dX4_weightAct_1 dX4_weightAct_4 ?_
  refine lv_iconst (v := 0) C.1 C.2.1 dX4_weightAct_7 (by decide) ?_
  refine x_inc C hw hS (j := 0) (by decide) (by decide) dX4_weightAct_8 dX4_weightAct_9 dX4_weightAct_10 dX4_weightAct_11 dX4_weightAct_12 (fun H locs hw hS => ?_)
  refine lv_aload_n C.1 C.2.1 dX4_weightAct_13 rfl (lv_at hl 0 rfl) ?_
  refine xv_get C hw hi hk 3 (by decide) tb_132 (Or.inl rfl) rfl dX4_weightAct_14 ?_
  exact ct_i C hr hlocks rfl (fun t ht hW => x_post hw ht hW) hS (Nat.le_of_ble_eq_true rfl) (Nat.le_of_ble_eq_true rfl) dX4_weightAct_17
set_option maxHeartbeats 4000000 in
set_option maxRecDepth 100000 in
/-- LORRY: UNDER + LOAD -/
theorem c_X7_weightAct (l : Launch) (D : va_G) (A : Nat → Prop) (P : SwP) (F : Nat → Nat → Int32) (B G : Nat → Int32) (dk : List Nat) (i : Nat) (hi : i < pn P) (hk : pk P i < 9) : Ct l yX7_weightAct (.code yX7_weightAct cX7_weightAct 1 (some .int)) { frames := 1, cells := 0, slots := 0, locals := 20 } A ([.ref (pa P i)]) (Xp D A P F B G dk) (.inl (some (.int (F i 3 + F i 5)))) (Xp D A P F (iB (iB B 4) 0) G dk) := by
  refine ct_mk (by decide) (Nat.le_of_ble_eq_true rfl) (fun p e s m below meth c ls C hr hlocks hnm htab hP hl => ?_)
  have hw := hP
  have hS : va_S A s.heap s.heap [] := va_S.rf
  have hl : lv_has ls 1 [(0, .ref (pa P i))] := hl
  refine x_begun C hw hi hk tb_112 (Or.inr tb_113) tb_39 (lv_at hl 0 rfl) dX7_weightAct_0 dX7_weightAct_1 dX7_weightAct_4 ?_
  refine lv_iconst (v := 4) C.1 C.2.1 dX7_weightAct_7 (by decide) ?_
  refine x_inc C hw hS (j := 4) (by decide) (by decide) dX7_weightAct_8 dX7_weightAct_9 dX7_weightAct_10 dX7_weightAct_11 dX7_weightAct_12 (fun H locs hw hS => ?_)
  refine lv_aload_n C.1 C.2.1 dX7_weightAct_13 rfl (lv_at hl 0 rfl) ?_
  refine ct_ret (x_SU C hw hi hk (c_X4_weightAct l D A P _ _ _ _ i hi hk) Xp_bl (fun U hU hW => x_post hw hU hW) tb_342 tb_4 tb_318 tb_324 tb_325 ⟨rfl, rfl⟩ tb_227 (by decide) (sup1 C tb_176) (by show _ = some 0; decide +kernel) hl.1 dX7_weightAct_14 ⟨Nat.le_of_ble_eq_true rfl, Nat.le_of_ble_eq_true rfl⟩ rfl (Nat.le_of_ble_eq_true rfl) ⟨Nat.le_of_ble_eq_true rfl, Nat.le_of_ble_eq_true rfl⟩) hS (fun _ h => h) (fun t H locs ht hvm hw _ _ hS => ?_)
  have hw := x_back hw ht hvm
  refine lv_aload_n C.1 C.2.1 dX7_weightAct_17 rfl (lv_at hl 0 rfl) ?_
  refine xv_get C hw hi hk 5 (by decide) tb_141 (Or.inr tb_142) rfl dX7_weightAct_18 ?_
  refine lv_iadd C.1 C.2.1 dX7_weightAct_21 ?_
  exact ct_i C hr hlocks rfl (fun t ht hW => x_post hw ht hW) hS (Nat.le_of_ble_eq_true rfl) (Nat.le_of_ble_eq_true rfl) dX7_weightAct_22
set_option maxHeartbeats 4000000 in
set_option maxRecDepth 100000 in
/-- TANKER: UNDER + LOAD / 4 -/
theorem c_X8_weightAct (l : Launch) (D : va_G) (A : Nat → Prop) (P : SwP) (F : Nat → Nat → Int32) (B G : Nat → Int32) (dk : List Nat) (i : Nat) (hi : i < pn P) (hk : pk P i < 9) : Ct l yX8_weightAct (.code yX8_weightAct cX8_weightAct 1 (some .int)) { frames := 2, cells := 0, slots := 0, locals := 40 } A ([.ref (pa P i)]) (Xp D A P F B G dk) (.inl (some (.int (F i 3 + F i 5 + F i 5 / 4)))) (Xp D A P F (iB (iB (iB B 5) 4) 0) G dk) := by
  refine ct_mk (by decide) (Nat.le_of_ble_eq_true rfl) (fun p e s m below meth c ls C hr hlocks hnm htab hP hl => ?_)
  have hw := hP
  have hS : va_S A s.heap s.heap [] := va_S.rf
  have hl : lv_has ls 1 [(0, .ref (pa P i))] := hl
  refine x_begun C hw hi hk tb_116 (Or.inr tb_117) tb_41 (lv_at hl 0 rfl) dX8_weightAct_0 dX8_weightAct_1 dX8_weightAct_4 ?_
  refine lv_iconst (v := 5) C.1 C.2.1 dX8_weightAct_7 (by decide) ?_
  refine x_inc C hw hS (j := 5) (by decide) (by decide) dX8_weightAct_8 dX8_weightAct_9 dX8_weightAct_10 dX8_weightAct_11 dX8_weightAct_12 (fun H locs hw hS => ?_)
  refine lv_aload_n C.1 C.2.1 dX8_weightAct_13 rfl (lv_at hl 0 rfl) ?_
  refine ct_ret (x_SU C hw hi hk (c_X7_weightAct l D A P _ _ _ _ i hi hk) Xp_bl (fun U hU hW => x_post hw hU hW) tb_323 tb_8 tb_322 tb_340 tb_886 ⟨rfl, rfl⟩ tb_244 (by decide) sup0 (by show _ = some 0; decide +kernel) hl.1 dX8_weightAct_14 ⟨Nat.le_of_ble_eq_true rfl, Nat.le_of_ble_eq_true rfl⟩ rfl (Nat.le_of_ble_eq_true rfl) ⟨Nat.le_of_ble_eq_true rfl, Nat.le_of_ble_eq_true rfl⟩) hS (fun _ h => h) (fun t H locs ht hvm hw _ _ hS => ?_)
  have hw := x_back hw ht hvm
  refine lv_aload_n C.1 C.2.1 dX8_weightAct_17 rfl (lv_at hl 0 rfl) ?_
  refine xv_get C hw hi hk 5 (by decide) tb_143 (Or.inr tb_144) rfl dX8_weightAct_18 ?_
  refine lv_iconst (v := 4) C.1 C.2.1 dX8_weightAct_21 (by decide) ?_
  refine lv_idiv C.1 C.2.1 dX8_weightAct_22 (by decide) ?_
  refine lv_iadd C.1 C.2.1 dX8_weightAct_23 ?_
  exact ct_i C hr hlocks rfl (fun t ht hW => x_post hw ht hW) hS (Nat.le_of_ble_eq_true rfl) (Nat.le_of_ble_eq_true rfl) dX8_weightAct_24
set_option maxHeartbeats 4000000 in
set_option maxRecDepth 100000 in
/-- LATE BUS: UNDER less 10 -/
theorem c_X6_weightAct (l : Launch) (D : va_G) (A : Nat → Prop) (P : SwP) (F : Nat → Nat → Int32) (B G : Nat → Int32) (dk : List Nat) (i : Nat) (hi : i < pn P) (hk : pk P i < 9) : Ct l yX6_weightAct (.code yX6_weightAct cX6_weightAct 1 (some .int)) { frames := 2, cells := 0, slots := 0, locals := 40 } A ([.ref (pa P i)]) (Xp D A P F B G dk) (.inl (some (.int (F i 3 + F i 5 - 10)))) (Xp D A P F (iB (iB (iB B 7) 4) 0) G dk) := by
  refine ct_mk (by decide) (Nat.le_of_ble_eq_true rfl) (fun p e s m below meth c ls C hr hlocks hnm htab hP hl => ?_)
  have hw := hP
  have hS : va_S A s.heap s.heap [] := va_S.rf
  have hl : lv_has ls 1 [(0, .ref (pa P i))] := hl
  refine x_begun C hw hi hk tb_114 (Or.inr tb_115) tb_40 (lv_at hl 0 rfl) dX6_weightAct_0 dX6_weightAct_1 dX6_weightAct_4 ?_
  refine lv_bipush (v := 7) C.1 C.2.1 dX6_weightAct_7 (by decide) ?_
  refine x_inc C hw hS (j := 7) (by decide) (by decide) dX6_weightAct_9 dX6_weightAct_10 dX6_weightAct_11 dX6_weightAct_12 dX6_weightAct_13 (fun H locs hw hS => ?_)
  refine lv_aload_n C.1 C.2.1 dX6_weightAct_14 rfl (lv_at hl 0 rfl) ?_
  refine ct_ret (x_SU C hw hi hk (c_X7_weightAct l D A P _ _ _ _ i hi hk) Xp_bl (fun U hU hW => x_post hw hU hW) tb_323 tb_8 tb_322 tb_333 tb_334 ⟨rfl, rfl⟩ tb_278 (by decide) (sup1 C tb_261) (by show _ = some 0; decide +kernel) hl.1 dX6_weightAct_15 ⟨Nat.le_of_ble_eq_true rfl, Nat.le_of_ble_eq_true rfl⟩ rfl (Nat.le_of_ble_eq_true rfl) ⟨Nat.le_of_ble_eq_true rfl, Nat.le_of_ble_eq_true rfl⟩) hS (fun _ h => h) (fun t H locs ht hvm hw _ _ hS => ?_)
  have hw := x_back hw ht hvm
  refine lv_bipush (v := 10) C.1 C.2.1 dX6_weightAct_18 (by decide) ?_
  refine lv_isub C.1 C.2.1 dX6_weightAct_20 ?_
  exact ct_i C hr hlocks rfl (fun t ht hW => x_post hw ht hW) hS (Nat.le_of_ble_eq_true rfl) (Nat.le_of_ble_eq_true rfl) dX6_weightAct_21
