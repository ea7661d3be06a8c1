theorem h_mmin : Cond.code Lib.Math.min.name Lib.Math.min.code 2 (some .int) ∈ wB := tb_405
theorem h_mmax : Cond.code Lib.Math.max.name Lib.Math.max.code 2 (some .int) ∈ wB := tb_637
set_option maxHeartbeats 400000 in
set_option maxRecDepth 100000 in
/-- CART: 5 + WEIGHT / 100 -/
theorem c_X4_tollAct (l : Launch) (D : va_G) (A : Nat → Prop) (P : SwP) (F : Nat → Nat → Int32) (B G : Nat → Int32) (dk : List Nat) (i : Nat) (h : Int32) (hi : i < pn P) (hk : pk P i < 9) : Ct l yX4_tollAct (.code yX4_tollAct cX4_tollAct 2 (some .int)) ({ frames := 3, cells := 0, slots := 0, locals := 60 }) A [.ref (pa P i), .int h] (Xp D A P F B G dk) (.inl (some (.int (tP (pk P i) F i)))) (Xp D A P F (tPB (pk P i) B) G dk) := by
  refine ct_mk (by decide) (Nat.le_of_ble_eq_true rfl) (fun p e s m below meth c ls C hr hlocks hnm htab hP hl => ?_)
  have hw := hP
  have hS : va_S A s.heap s.heap [] := va_S.rf
  have hl : lv_has ls 2 [(0, .ref (pa P i)), (1, .int (h))] := hl
  refine x_begun C hw hi hk tb_111 (Or.inl rfl) tb_38 (lv_at hl 0 rfl) dX4_tollAct_0 dX4_tollAct_1 dX4_tollAct_4 ?_
  refine lv_iconst (v := 0) C.1 C.2.1 dX4_tollAct_7 (by decide) ?_
  refine x_inc C hw hS (j := 0) (by decide) (by decide) dX4_tollAct_8 dX4_tollAct_9 dX4_tollAct_10 dX4_tollAct_11 dX4_tollAct_12 (fun H locs hw hS => ?_)
  refine lv_iconst (v := 5) C.1 C.2.1 dX4_tollAct_13 (by decide) ?_
  refine lv_aload_n C.1 C.2.1 dX4_tollAct_14 rfl (lv_at hl 0 rfl) ?_
  refine ct_ret (v_weight C hw hi hk tb_375 hl.1 dX4_tollAct_15 ⟨Nat.le_of_ble_eq_true rfl, Nat.le_of_ble_eq_true rfl⟩ (Nat.le_of_ble_eq_true rfl) ⟨Nat.le_of_ble_eq_true rfl, Nat.le_of_ble_eq_true rfl⟩) hS (fun _ h => h) (fun t H locs ht hvm hw _ _ hS => ?_)
  have hw := x_back hw ht hvm
  refine lv_bipush (v := 100) C.1 C.2.1 dX4_tollAct_18 (by decide) ?_
  refine lv_idiv C.1 C.2.1 dX4_tollAct_20 (by decide) ?_
  refine lv_iadd C.1 C.2.1 dX4_tollAct_21 ?_
  exact ct_i C hr hlocks rfl (fun t ht hW => x_post hw ht hW) hS (Nat.le_of_ble_eq_true rfl) (Nat.le_of_ble_eq_true rfl) dX4_tollAct_22
set_option maxHeartbeats 400000 in
set_option maxRecDepth 100000 in
/-- CAR: UNDER + 10 -/
theorem c_X3_tollAct (l : Launch) (D : va_G) (A : Nat → Prop) (P : SwP) (F : Nat → Nat → Int32) (B G : Nat → Int32) (dk : List Nat) (i : Nat) (h : Int32) (hi : i < pn P) (hk : pk P i < 9) : Ct l yX3_tollAct (.code yX3_tollAct cX3_tollAct 2 (some .int)) ({ frames := 4, cells := 0, slots := 0, locals := 81 }) A [.ref (pa P i), .int h] (Xp D A P F B G dk) (.inl (some (.int (tP (pk P i) F i + 10)))) (Xp D A P F (tPB (pk P i) (iB B 2)) G dk) := by
  refine ct_mk (by decide) (Nat.le_of_ble_eq_true rfl) (fun p e s m below meth c ls C hr hlocks hnm htab hP hl => ?_)
  have hw := hP
  have hS : va_S A s.heap s.heap [] := va_S.rf
  have hl : lv_has ls 2 [(0, .ref (pa P i)), (1, .int (h))] := hl
  refine x_begun C hw hi hk tb_120 (Or.inr tb_121) tb_43 (lv_at hl 0 rfl) dX3_tollAct_0 dX3_tollAct_1 dX3_tollAct_4 ?_
  refine lv_iconst (v := 2) C.1 C.2.1 dX3_tollAct_7 (by decide) ?_
  refine x_inc C hw hS (j := 2) (by decide) (by decide) dX3_tollAct_8 dX3_tollAct_9 dX3_tollAct_10 dX3_tollAct_11 dX3_tollAct_12 (fun H locs hw hS => ?_)
  refine lv_aload_n C.1 C.2.1 dX3_tollAct_13 rfl (lv_at hl 0 rfl) ?_
  refine lv_iload_n C.1 C.2.1 dX3_tollAct_14 rfl (lv_at hl 1 rfl) ?_
  refine ct_ret (x_SU C hw hi hk (c_X4_tollAct l D A P _ _ _ _ i h hi hk) Xp_bl (fun U hU hW => x_post hw hU hW) tb_571 tb_4 tb_475 tb_485 tb_486 ⟨rfl, rfl⟩ tb_193 (by decide) (sup1 C tb_176) (by show _ = some 1; decide +kernel) hl.1 dX3_tollAct_15 ⟨Nat.le_of_ble_eq_true rfl, Nat.le_of_ble_eq_true rfl⟩ rfl (Nat.le_of_ble_eq_true rfl) ⟨Nat.le_of_ble_eq_true rfl, Nat.le_of_ble_eq_true rfl⟩) hS (fun _ h => h) (fun t H locs ht hvm hw _ _ hS => ?_)
  have hw := x_back hw ht hvm
  refine lv_bipush (v := 10) C.1 C.2.1 dX3_tollAct_18 (by decide) ?_
  refine lv_iadd C.1 C.2.1 dX3_tollAct_20 ?_
  exact ct_i C hr hlocks rfl (fun t ht hW => x_post hw ht hW) hS (Nat.le_of_ble_eq_true rfl) (Nat.le_of_ble_eq_true rfl) dX3_tollAct_21
set_option maxHeartbeats 400000 in
set_option maxRecDepth 100000 in
/-- CAB -/
theorem c_X2_tollAct (l : Launch) (D : va_G) (A : Nat → Prop) (P : SwP) (F : Nat → Nat → Int32) (B G : Nat → Int32) (dk : List Nat) (i : Nat) (h : Int32) (hi : i < pn P) (hk : pk P i < 9) : Ct l yX2_tollAct (.code yX2_tollAct cX2_tollAct 3 (some .int)) ({ frames := 5, cells := 0, slots := 0, locals := 102 }) A [.ref (pa P i), .int h] (Xp D A P F B G dk) (.inl (some (.int (if 20 ≤ h then 2 * (tP (pk P i) F i + 10) else if 6 ≤ h then tP (pk P i) F i + 10 + F i 9 else 2 * (tP (pk P i) F i + 10))))) (Xp D A P F (tPB (pk P i) (iB (iB B 3) 2)) G dk) := by
  refine ct_mk (by decide) (Nat.le_of_ble_eq_true rfl) (fun p e s m below meth c ls C hr hlocks hnm htab hP hl => ?_)
  have hw := hP
  have hS : va_S A s.heap s.heap [] := va_S.rf
  have hl : lv_has ls 3 [(0, .ref (pa P i)), (1, .int (h))] := hl
  refine x_begun C hw hi hk tb_118 (Or.inr tb_119) tb_42 (lv_at hl 0 rfl) dX2_tollAct_0 dX2_tollAct_1 dX2_tollAct_4 ?_
  refine lv_iconst (v := 3) C.1 C.2.1 dX2_tollAct_7 (by decide) ?_
  refine x_inc C hw hS (j := 3) (by decide) (by decide) dX2_tollAct_8 dX2_tollAct_9 dX2_tollAct_10 dX2_tollAct_11 dX2_tollAct_12 (fun H locs hw hS => ?_)
  refine lv_aload_n C.1 C.2.1 dX2_tollAct_13 rfl (lv_at hl 0 rfl) ?_
  refine lv_iload_n C.1 C.2.1 dX2_tollAct_14 rfl (lv_at hl 1 rfl) ?_
  refine ct_ret (x_SU C hw hi hk (c_X3_tollAct l D A P _ _ _ _ i h hi hk) Xp_bl (fun U hU hW => x_post hw hU hW) tb_484 tb_6 tb_483 tb_482 tb_888 ⟨rfl, rfl⟩ tb_210 (by decide) sup0 (by show _ = some 1; decide +kernel) hl.1 dX2_tollAct_15 ⟨Nat.le_of_ble_eq_true rfl, Nat.le_of_ble_eq_true rfl⟩ rfl (Nat.le_of_ble_eq_true rfl) ⟨Nat.le_of_ble_eq_true rfl, Nat.le_of_ble_eq_true rfl⟩) hS (fun _ h => h) (fun t H locs ht hvm hw _ _ hS => ?_)
  have hw := x_back hw ht hvm
  refine lv_istore_n (lv' := [(2, .int (tP (pk P i) F i + 10)), (0, .ref (pa P i)), (1, .int (h))]) C.1 C.2.1 dX2_tollAct_18 rfl hl (by decide) rfl (fun ls hl => ?_)
  refine lv_iload_n C.1 C.2.1 dX2_tollAct_19 rfl (lv_at hl 2 rfl) ?_
  refine lv_bipush (v := 20) C.1 C.2.1 dX2_tollAct_20 (by decide) ?_
  refine lv_icmp_ge (tgt := 31) C.1 C.2.1 dX2_tollAct_22 (by decide) (fun h1 => ?_) (fun h1 => ?_)
  · refine lv_iconst (v := 2) C.1 C.2.1 dX2_tollAct_31 (by decide) ?_
    refine lv_iload_n C.1 C.2.1 dX2_tollAct_32 rfl (lv_at hl 0 rfl) ?_
    refine lv_imul C.1 C.2.1 dX2_tollAct_33 ?_
    exact ct_i C hr hlocks (by rw [if_pos h1]) (fun t ht hW => x_post hw ht hW) hS (Nat.le_of_ble_eq_true rfl) (Nat.le_of_ble_eq_true rfl) dX2_tollAct_34
  · refine lv_iload_n C.1 C.2.1 dX2_tollAct_25 rfl (lv_at hl 2 rfl) ?_
    refine lv_bipush (v := 6) C.1 C.2.1 dX2_tollAct_26 (by decide) ?_
    refine lv_icmp_ge (tgt := 35) C.1 C.2.1 dX2_tollAct_28 (by decide) (fun h2 => ?_) (fun h2 => ?_)
    · refine lv_iload_n C.1 C.2.1 dX2_tollAct_35 rfl (lv_at hl 0 rfl) ?_
      refine lv_aload_n C.1 C.2.1 dX2_tollAct_36 rfl (lv_at hl 1 rfl) ?_
      refine xv_get C hw hi hk 9 (by decide) tb_153 (Or.inr tb_154) rfl dX2_tollAct_37 ?_
      refine lv_iadd C.1 C.2.1 dX2_tollAct_40 ?_
      exact ct_i C hr hlocks (by rw [if_neg h1, if_pos h2]) (fun t ht hW => x_post hw ht hW) hS (Nat.le_of_ble_eq_true rfl) (Nat.le_of_ble_eq_true rfl) dX2_tollAct_41
    · refine lv_iconst (v := 2) C.1 C.2.1 dX2_tollAct_31 (by decide) ?_
      refine lv_iload_n C.1 C.2.1 dX2_tollAct_32 rfl (lv_at hl 0 rfl) ?_
      refine lv_imul C.1 C.2.1 dX2_tollAct_33 ?_
      exact ct_i C hr hlocks (by rw [if_neg h1, if_neg h2]) (fun t ht hW => x_post hw ht hW) hS (Nat.le_of_ble_eq_true rfl) (Nat.le_of_ble_eq_true rfl) dX2_tollAct_34
set_option maxHeartbeats 400000 in
set_option maxRecDepth 100000 in
/-- TANKER: UNDER + 50 -/
theorem c_X8_tollAct (l : Launch) (D : va_G) (A : Nat → Prop) (P : SwP) (F : Nat → Nat → Int32) (B G : Nat → Int32) (dk : List Nat) (i : Nat) (h : Int32) (hi : i < pn P) (hk : pk P i < 9) : Ct l yX8_tollAct (.code yX8_tollAct cX8_tollAct 2 (some .int)) ({ frames := 4, cells := 0, slots := 0, locals := 81 }) A [.ref (pa P i), .int h] (Xp D A P F B G dk) (.inl (some (.int (tP (pk P i) F i + 50)))) (Xp D A P F (tPB (pk P i) (iB B 5)) G dk) := by
  refine ct_mk (by decide) (Nat.le_of_ble_eq_true rfl) (fun p e s m below meth c ls C hr hlocks hnm htab hP hl => ?_)
  have hw := hP
  have hS : va_S A s.heap s.heap [] := va_S.rf
  have hl : lv_has ls 2 [(0, .ref (pa P i)), (1, .int (h))] := hl
  refine x_begun C hw hi hk tb_116 (Or.inr tb_117) tb_41 (lv_at hl 0 rfl) dX8_tollAct_0 dX8_tollAct_1 dX8_tollAct_4 ?_
  refine lv_iconst (v := 5) C.1 C.2.1 dX8_tollAct_7 (by decide) ?_
  refine x_inc C hw hS (j := 5) (by decide) (by decide) dX8_tollAct_8 dX8_tollAct_9 dX8_tollAct_10 dX8_tollAct_11 dX8_tollAct_12 (fun H locs hw hS => ?_)
  refine lv_aload_n C.1 C.2.1 dX8_tollAct_13 rfl (lv_at hl 0 rfl) ?_
  refine lv_iload_n C.1 C.2.1 dX8_tollAct_14 rfl (lv_at hl 1 rfl) ?_
  refine ct_ret (x_SU C hw hi hk (c_X4_tollAct l D A P _ _ _ _ i h hi hk) Xp_bl (fun U hU hW => x_post hw hU hW) tb_571 tb_4 tb_475 tb_568 tb_569 ⟨rfl, rfl⟩ tb_244 (by decide) (sup2 C hw tb_227 tb_176) (by show _ = some 1; decide +kernel) hl.1 dX8_tollAct_15 ⟨Nat.le_of_ble_eq_true rfl, Nat.le_of_ble_eq_true rfl⟩ rfl (Nat.le_of_ble_eq_true rfl) ⟨Nat.le_of_ble_eq_true rfl, Nat.le_of_ble_eq_true rfl⟩) hS (fun _ h => h) (fun t H locs ht hvm hw _ _ hS => ?_)
  have hw := x_back hw ht hvm
  refine lv_bipush (v := 50) C.1 C.2.1 dX8_tollAct_18 (by decide) ?_
  refine lv_iadd C.1 C.2.1 dX8_tollAct_20 ?_
  exact ct_i C hr hlocks rfl (fun t ht hW => x_post hw ht hW) hS (Nat.le_of_ble_eq_true rfl) (Nat.le_of_ble_eq_true rfl) dX8_tollAct_21
set_option maxHeartbeats 400000 in
set_option maxRecDepth 100000 in
/-- LATE BUS -/
theorem c_X6_tollAct (l : Launch) (D : va_G) (A : Nat → Prop) (P : SwP) (F : Nat → Nat → Int32) (B G : Nat → Int32) (dk : List Nat) (i : Nat) (h : Int32) (hi : i < pn P) (hk : pk P i < 9) : Ct l yX6_tollAct (.code yX6_tollAct cX6_tollAct 2 (some .int)) ({ frames := 4, cells := 0, slots := 0, locals := 81 }) A [.ref (pa P i), .int h] (Xp D A P F B G dk) (.inl (some (.int (if 22 ≤ h then 0 else if 5 ≤ h then tP (pk P i) F i else 0)))) (Xp D A P F (if 22 ≤ h then iB B 7 else if 5 ≤ h then tPB (pk P i) (iB B 7) else iB B 7) G dk) := by
  refine ct_mk (by decide) (Nat.le_of_ble_eq_true rfl) (fun p e s m below meth c ls C hr hlocks hnm htab hP hl => ?_)
  have hw := hP
  have hS : va_S A s.heap s.heap [] := va_S.rf
  have hl : lv_has ls 2 [(0, .ref (pa P i)), (1, .int (h))] := hl
  refine x_begun C hw hi hk tb_114 (Or.inr tb_115) tb_40 (lv_at hl 0 rfl) dX6_tollAct_0 dX6_tollAct_1 dX6_tollAct_4 ?_
  refine lv_bipush (v := 7) C.1 C.2.1 dX6_tollAct_7 (by decide) ?_
  refine x_inc C hw hS (j := 7) (by decide) (by decide) dX6_tollAct_9 dX6_tollAct_10 dX6_tollAct_11 dX6_tollAct_12 dX6_tollAct_13 (fun H locs hw hS => ?_)
  refine lv_iload_n C.1 C.2.1 dX6_tollAct_14 rfl (lv_at hl 1 rfl) ?_
  refine lv_bipush (v := 22) C.1 C.2.1 dX6_tollAct_15 (by decide) ?_
  refine lv_icmp_ge (tgt := 25) C.1 C.2.1 dX6_tollAct_17 (by decide) (fun h1 => ?_) (fun h1 => ?_)
  · refine lv_iconst (v := 0) C.1 C.2.1 dX6_tollAct_25 (by decide) ?_
    exact ct_i C hr hlocks (by rw [if_pos h1]) (fun t ht hW => by rw [if_pos h1]; exact x_post hw ht hW) hS (Nat.le_of_ble_eq_true rfl) (Nat.le_of_ble_eq_true rfl) dX6_tollAct_26
  · refine lv_iload_n C.1 C.2.1 dX6_tollAct_20 rfl (lv_at hl 1 rfl) ?_
    refine lv_iconst (v := 5) C.1 C.2.1 dX6_tollAct_21 (by decide) ?_
    refine lv_icmp_ge (tgt := 27) C.1 C.2.1 dX6_tollAct_22 (by decide) (fun h2 => ?_) (fun h2 => ?_)
    · refine lv_aload_n C.1 C.2.1 dX6_tollAct_27 rfl (lv_at hl 0 rfl) ?_
      refine lv_iload_n C.1 C.2.1 dX6_tollAct_28 rfl (lv_at hl 1 rfl) ?_
      refine ct_ret (x_SU C hw hi hk (c_X4_tollAct l D A P _ _ _ _ i h hi hk) Xp_bl (fun U hU hW => x_post hw hU hW) tb_571 tb_4 tb_475 tb_562 tb_563 ⟨rfl, rfl⟩ tb_278 (by decide) (sup3 C hw tb_261 tb_227 tb_176) (by show _ = some 1; decide +kernel) hl.1 dX6_tollAct_29 ⟨Nat.le_of_ble_eq_true rfl, Nat.le_of_ble_eq_true rfl⟩ rfl (Nat.le_of_ble_eq_true rfl) ⟨Nat.le_of_ble_eq_true rfl, Nat.le_of_ble_eq_true rfl⟩) hS (fun _ h => h) (fun t H locs ht hvm hw _ _ hS => ?_)
      have hw := x_back hw ht hvm
      exact ct_i C hr hlocks (by rw [if_neg h1, if_pos h2]) (fun t ht hW => by rw [if_neg h1, if_pos h2]; exact x_post hw ht hW) hS (Nat.le_of_ble_eq_true rfl) (Nat.le_of_ble_eq_true rfl) dX6_tollAct_32
    · refine lv_iconst (v := 0) C.1 C.2.1 dX6_tollAct_25 (by decide) ?_
      exact ct_i C hr hlocks (by rw [if_neg h1, if_neg h2]) (fun t ht hW => by rw [if_neg h1, if_neg h2]; exact x_post hw ht hW) hS (Nat.le_of_ble_eq_true rfl) (Nat.le_of_ble_eq_true rfl) dX6_tollAct_26
set_option maxHeartbeats 400000 in
set_option maxRecDepth 100000 in
/-- CART: SHARE -/
theorem c_X4_rebateAct (l : Launch) (D : va_G) (A : Nat → Prop) (P : SwP) (F : Nat → Nat → Int32) (B G : Nat → Int32) (dk : List Nat) (i : Nat) (hi : i < pn P) (hk : pk P i < 9) : Ct l yX4_rebateAct (.code yX4_rebateAct cX4_rebateAct 1 (some .int)) ({ frames := 0, cells := 0, slots := 0, locals := 0 }) A [.ref (pa P i)] (Xp D A P F B G dk) (.inl (some (.int (F i 4)))) (Xp D A P F (iB B 0) G dk) := by
  refine ct_mk (by decide) (Nat.le_of_ble_eq_true rfl) (fun p e s m below meth c ls C hr hlocks hnm htab hP hl => ?_)
  have hw := hP
  have hS : va_S A s.heap s.heap [] := va_S.rf
  have hl : lv_has ls 1 [(0, .ref (pa P i))] := hl
  refine x_begun C hw hi hk tb_111 (Or.inl rfl) tb_38 (lv_at hl 0 rfl) dX4_rebateAct_0 dX4_rebateAct_1 dX4_rebateAct_4 ?_
  refine lv_iconst (v := 0) C.1 C.2.1 dX4_rebateAct_7 (by decide) ?_
  refine x_inc C hw hS (j := 0) (by decide) (by decide) dX4_rebateAct_8 dX4_rebateAct_9 dX4_rebateAct_10 dX4_rebateAct_11 dX4_rebateAct_12 (fun H locs hw hS => ?_)
  refine lv_aload_n C.1 C.2.1 dX4_rebateAct_13 rfl (lv_at hl 0 rfl) ?_
  refine xv_get C hw hi hk 4 (by decide) tb_134 (Or.inl rfl) rfl dX4_rebateAct_14 ?_
  exact ct_i C hr hlocks rfl (fun t ht hW => x_post hw ht hW) hS (Nat.le_of_ble_eq_true rfl) (Nat.le_of_ble_eq_true rfl) dX4_rebateAct_17
set_option maxHeartbeats 400000 in
set_option maxRecDepth 100000 in
/-- CAR: UNDER + 5, at most 100 -/
theorem c_X3_rebateAct (l : Launch) (D : va_G) (A : Nat → Prop) (P : SwP) (F : Nat → Nat → Int32) (B G : Nat → Int32) (dk : List Nat) (i : Nat) (hi : i < pn P) (hk : pk P i < 9) : Ct l yX3_rebateAct (.code yX3_rebateAct cX3_rebateAct 1 (some .int)) ({ frames := 1, cells := 0, slots := 0, locals := 20 }) A [.ref (pa P i)] (Xp D A P F B G dk) (.inl (some (.int (mn (F i 4 + 5) 100)))) (Xp D A P F (iB (iB B 2) 0) G dk) := by
  refine ct_mk (by decide) (Nat.le_of_ble_eq_true rfl) (fun p e s m below meth c ls C hr hlocks hnm htab hP hl => ?_)
  have hw := hP
  have hS : va_S A s.heap s.heap [] := va_S.rf
  have hl : lv_has ls 1 [(0, .ref (pa P i))] := hl
  refine x_begun C hw hi hk tb_120 (Or.inr tb_121) tb_43 (lv_at hl 0 rfl) dX3_rebateAct_0 dX3_rebateAct_1 dX3_rebateAct_4 ?_
  refine lv_iconst (v := 2) C.1 C.2.1 dX3_rebateAct_7 (by decide) ?_
  refine x_inc C hw hS (j := 2) (by decide) (by decide) dX3_rebateAct_8 dX3_rebateAct_9 dX3_rebateAct_10 dX3_rebateAct_11 dX3_rebateAct_12 (fun H locs hw hS => ?_)
  refine lv_aload_n C.1 C.2.1 dX3_rebateAct_13 rfl (lv_at hl 0 rfl) ?_
  refine ct_ret (x_SU C hw hi hk (c_X4_rebateAct l D A P _ _ _ _ i hi hk) Xp_bl (fun U hU hW => x_post hw hU hW) tb_439 tb_4 tb_417 tb_424 tb_425 ⟨rfl, rfl⟩ tb_193 (by decide) (sup1 C tb_176) (by show _ = some 0; decide +kernel) hl.1 dX3_rebateAct_14 ⟨Nat.le_of_ble_eq_true rfl, Nat.le_of_ble_eq_true rfl⟩ rfl (Nat.le_of_ble_eq_true rfl) ⟨Nat.le_of_ble_eq_true rfl, Nat.le_of_ble_eq_true rfl⟩) hS (fun _ h => h) (fun t H locs ht hvm hw _ _ hS => ?_)
  have hw := x_back hw ht hvm
  refine lv_iconst (v := 5) C.1 C.2.1 dX3_rebateAct_17 (by decide) ?_
  refine lv_iadd C.1 C.2.1 dX3_rebateAct_18 ?_
  refine lv_bipush (v := 100) C.1 C.2.1 dX3_rebateAct_19 (by decide) ?_
  refine va_mmin C.1 C.2.1 (by rw [C.2.2.1]; exact hl.1.symm) C.2.2.2.1 (C.2.2.2.2 _ tb_427) (C.2.2.2.2 _ tb_404) (C.2.2.2.2 _ tb_18) (C.2.2.2.2 _ h_mmin) (Nat.le_of_ble_eq_true rfl) (Nat.le_of_ble_eq_true rfl) (Nat.le_of_ble_eq_true rfl) (Nat.le_of_ble_eq_true rfl) dX3_rebateAct_21 ?_
  exact ct_i C hr hlocks rfl (fun t ht hW => x_post hw ht hW) hS (Nat.le_of_ble_eq_true rfl) (Nat.le_of_ble_eq_true rfl) dX3_rebateAct_24
set_option maxHeartbeats 400000 in
set_option maxRecDepth 100000 in
/-- LATE BUS: twice UNDER, at most 100 -/
theorem c_X6_rebateAct (l : Launch) (D : va_G) (A : Nat → Prop) (P : SwP) (F : Nat → Nat → Int32) (B G : Nat → Int32) (dk : List Nat) (i : Nat) (hi : i < pn P) (hk : pk P i < 9) : Ct l yX6_rebateAct (.code yX6_rebateAct cX6_rebateAct 1 (some .int)) ({ frames := 1, cells := 0, slots := 0, locals := 20 }) A [.ref (pa P i)] (Xp D A P F B G dk) (.inl (some (.int (mn (2 * F i 4) 100)))) (Xp D A P F (iB (iB B 7) 0) G dk) := by
  refine ct_mk (by decide) (Nat.le_of_ble_eq_true rfl) (fun p e s m below meth c ls C hr hlocks hnm htab hP hl => ?_)
  have hw := hP
  have hS : va_S A s.heap s.heap [] := va_S.rf
  have hl : lv_has ls 1 [(0, .ref (pa P i))] := hl
  refine x_begun C hw hi hk tb_114 (Or.inr tb_115) tb_40 (lv_at hl 0 rfl) dX6_rebateAct_0 dX6_rebateAct_1 dX6_rebateAct_4 ?_
  refine lv_bipush (v := 7) C.1 C.2.1 dX6_rebateAct_7 (by decide) ?_
  refine x_inc C hw hS (j := 7) (by decide) (by decide) dX6_rebateAct_9 dX6_rebateAct_10 dX6_rebateAct_11 dX6_rebateAct_12 dX6_rebateAct_13 (fun H locs hw hS => ?_)
  refine lv_iconst (v := 2) C.1 C.2.1 dX6_rebateAct_14 (by decide) ?_
  refine lv_aload_n C.1 C.2.1 dX6_rebateAct_15 rfl (lv_at hl 0 rfl) ?_
  refine ct_ret (x_SU C hw hi hk (c_X4_rebateAct l D A P _ _ _ _ i hi hk) Xp_bl (fun U hU hW => x_post hw hU hW) tb_439 tb_4 tb_417 tb_433 tb_434 ⟨rfl, rfl⟩ tb_278 (by decide) (sup3 C hw tb_261 tb_227 tb_176) (by show _ = some 0; decide +kernel) hl.1 dX6_rebateAct_16 ⟨Nat.le_of_ble_eq_true rfl, Nat.le_of_ble_eq_true rfl⟩ rfl (Nat.le_of_ble_eq_true rfl) ⟨Nat.le_of_ble_eq_true rfl, Nat.le_of_ble_eq_true rfl⟩) hS (fun _ h => h) (fun t H locs ht hvm hw _ _ hS => ?_)
  have hw := x_back hw ht hvm
  refine lv_imul C.1 C.2.1 dX6_rebateAct_19 ?_
  refine lv_bipush (v := 100) C.1 C.2.1 dX6_rebateAct_20 (by decide) ?_
  refine va_mmin C.1 C.2.1 (by rw [C.2.2.1]; exact hl.1.symm) C.2.2.2.1 (C.2.2.2.2 _ tb_435) (C.2.2.2.2 _ tb_404) (C.2.2.2.2 _ tb_18) (C.2.2.2.2 _ h_mmin) (Nat.le_of_ble_eq_true rfl) (Nat.le_of_ble_eq_true rfl) (Nat.le_of_ble_eq_true rfl) (Nat.le_of_ble_eq_true rfl) dX6_rebateAct_22 ?_
  exact ct_i C hr hlocks rfl (fun t ht hW => x_post hw ht hW) hS (Nat.le_of_ble_eq_true rfl) (Nat.le_of_ble_eq_true rfl) dX6_rebateAct_25
