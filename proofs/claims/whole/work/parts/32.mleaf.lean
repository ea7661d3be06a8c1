set_option maxHeartbeats 400000 in
set_option maxRecDepth 100000 in
/-- within -/
theorem c_X11_within (l : Launch) (x a b : Int32) : Ct l yX11_within (.code yX11_within cX11_within 3 (some .boolean)) ({ frames := 0, cells := 0, slots := 0, locals := 0 }) No [.int x, .int a, .int b] Tr (.inl (some (.int (b2i (!(outs x a b)))))) Tr := by
  refine ct_mk (by decide) (Nat.le_of_ble_eq_true rfl) (fun p e s m below meth c ls C hr hlocks hnm htab hP hl => ?_)
  have hS : va_S No s.heap s.heap [] := va_S.rf
  have hl : lv_has ls 3 [(0, .int x), (1, .int a), (2, .int b)] := hl
  refine lv_iload_n C.1 C.2.1 dX11_within_0 rfl (lv_at hl 0 rfl) ?_
  refine lv_iload_n C.1 C.2.1 dX11_within_1 rfl (lv_at hl 1 rfl) ?_
  refine lv_icmp_lt (tgt := 14) C.1 C.2.1 dX11_within_2 (by decide) (fun h1 => ?_) (fun h1 => ?_)
  · refine lv_iconst (v := 0) C.1 C.2.1 dX11_within_14 (by decide) ?_
    exact ct_z C hr hlocks (Or.inl rfl) (by rw [show outs x a b = true from decide_eq_true (Or.inl h1)]; rfl) (fun t ht hW => trivial) hS (Nat.le_of_ble_eq_true rfl) (Nat.le_of_ble_eq_true rfl) dX11_within_15
  · refine lv_iload_n C.1 C.2.1 dX11_within_5 rfl (lv_at hl 0 rfl) ?_
    refine lv_iload_n C.1 C.2.1 dX11_within_6 rfl (lv_at hl 2 rfl) ?_
    refine lv_icmp_gt (tgt := 14) C.1 C.2.1 dX11_within_7 (by decide) (fun h2 => ?_) (fun h2 => ?_)
    · refine lv_iconst (v := 0) C.1 C.2.1 dX11_within_14 (by decide) ?_
      exact ct_z C hr hlocks (Or.inl rfl) (by rw [show outs x a b = true from decide_eq_true (Or.inr h2)]; rfl) (fun t ht hW => trivial) hS (Nat.le_of_ble_eq_true rfl) (Nat.le_of_ble_eq_true rfl) dX11_within_15
    · refine lv_iconst (v := 1) C.1 C.2.1 dX11_within_10 (by decide) ?_
      refine lv_goto (tgt := 15) C.1 C.2.1 dX11_within_11 (by decide) ?_
      exact ct_z C hr hlocks (Or.inr rfl) (by rw [show outs x a b = false from decide_eq_false (fun q => q.elim h1 h2)]; rfl) (fun t ht hW => trivial) hS (Nat.le_of_ble_eq_true rfl) (Nat.le_of_ble_eq_true rfl) dX11_within_15
set_option maxHeartbeats 400000 in
set_option maxRecDepth 100000 in
/-- isHour -/
theorem c_X11_isHour (l : Launch) (x : Int32) : Ct l yX11_isHour (.code yX11_isHour cX11_isHour 1 (some .boolean)) ({ frames := 1, cells := 0, slots := 0, locals := 22 }) No [.int x] Tr (.inl (some (.int (b2i (!(outs x 0 23)))))) Tr := by
  refine ct_mk (by decide) (Nat.le_of_ble_eq_true rfl) (fun p e s m below meth c ls C hr hlocks hnm htab hP hl => ?_)
  have hS : va_S No s.heap s.heap [] := va_S.rf
  have hl : lv_has ls 1 [(0, .int x)] := hl
  refine lv_iload_n C.1 C.2.1 dX11_isHour_0 rfl (lv_at hl 0 rfl) ?_
  refine lv_iconst (v := 0) C.1 C.2.1 dX11_isHour_1 (by decide) ?_
  refine lv_bipush (v := 23) C.1 C.2.1 dX11_isHour_2 (by decide) ?_
  refine ct_ret (ct_S C (c_X11_within l (x) (0) (23)) Tr_bl (Or.inl rfl) tb_773 tb_3 ⟨Nat.le_of_ble_eq_true rfl, Nat.le_of_ble_eq_true rfl⟩ tb_771 ⟨by decide, by decide⟩ tb_772 (fun _ _ _ => trivial) (by show _ = some 3; decide +kernel) hl.1 rfl (Nat.le_of_ble_eq_true rfl) dX11_isHour_4 ⟨Nat.le_of_ble_eq_true rfl, Nat.le_of_ble_eq_true rfl⟩) hS (fun _ h => False.elim h) (fun t H locs ht hvm _ _ hk hS => ?_)
  exact ct_z C hr hlocks (b2i_z _) rfl (fun t ht hW => trivial) hS (Nat.le_of_ble_eq_true rfl) (Nat.le_of_ble_eq_true rfl) dX11_isHour_7
theorem isV_eq {n : Nat} {x : Int32} (hn : n ≤ 24) : (!(outs x 0 (nI n - 1))) = (vAt n x).isSome := by
  by_cases h0 : x < 0
  · rw [show outs x 0 (nI n - 1) = true from decide_eq_true (Or.inl h0), show vAt n x = none from if_pos h0]; rfl
  · obtain ⟨j, hj, rfl⟩ := nI_of h0
    rw [vAt_nI hj]
    cases n with
    | zero =>
      rw [if_neg (by omega), show outs (nI j) 0 (nI 0 - 1) = true from decide_eq_true (Or.inr (by
        rw [Int32.lt_iff_toInt_lt, nI_toInt hj]
        have : (nI 0 - 1 : Int32).toInt = -1 := by decide
        omega))]
      rfl
    | succ n =>
      rw [nI_pred]
      by_cases h1 : j < n + 1
      · rw [if_pos h1, show outs (nI j) 0 (nI n) = false from decide_eq_false (fun q => q.elim h0 (fun q => absurd ((nI_ltI (by omega) hj).mp q) (by omega)))]; rfl
      · rw [if_neg h1, show outs (nI j) 0 (nI n) = true from decide_eq_true (Or.inr (nI_lt (by omega) hj))]; rfl
set_option maxHeartbeats 400000 in
set_option maxRecDepth 100000 in
/-- whether there is such a vehicle -/
theorem c_X11_isVehicle (l : Launch) (D : va_G) (A : Nat → Prop) (q : Nat → Nat) (cI n : Nat) (F : Nat → Nat → Int32) (B G : Nat → Int32) (cnt : Int32) (r : Nat → Int32) (thr dv : Int32) (hn : n ≤ 24) (x : Int32) : Ct l yX11_isVehicle (.code yX11_isVehicle cX11_isVehicle 2 (some .boolean)) ({ frames := 1, cells := 0, slots := 0, locals := 22 }) A [.ref (q 0), .int x] (Mp D A q cI n F B G cnt r thr dv) (.inl (some (.int (b2i (vAt n x).isSome)))) (Mp D A q cI n F B G cnt r thr dv) := by
  refine ct_mk (by decide) (Nat.le_of_ble_eq_true rfl) (fun p e s m below meth c ls C hr hlocks hnm htab hP hl => ?_)
  have hw := hP
  have hS : va_S A s.heap s.heap [] := va_S.rf
  have hl : lv_has ls 2 [(0, .ref (q 0)), (1, .int x)] := hl
  refine lv_iload_n C.1 C.2.1 dX11_isVehicle_0 rfl (lv_at hl 1 rfl) ?_
  refine lv_iconst (v := 0) C.1 C.2.1 dX11_isVehicle_1 (by decide) ?_
  refine lv_aload_n C.1 C.2.1 dX11_isVehicle_2 rfl (lv_at hl 0 rfl) ?_
  refine mg_get C hw 1 (by decide) tb_709 rfl dX11_isVehicle_3 ?_
  refine lv_iconst (v := 1) C.1 C.2.1 dX11_isVehicle_6 (by decide) ?_
  refine lv_isub C.1 C.2.1 dX11_isVehicle_7 ?_
  refine ct_ret (ct_S C (c_X11_within l (x) (0) ((nI n) - (1))) Tr_bl (Or.inl rfl) tb_773 tb_3 ⟨Nat.le_of_ble_eq_true rfl, Nat.le_of_ble_eq_true rfl⟩ tb_771 ⟨by decide, by decide⟩ tb_772 (fun _ _ _ => trivial) (by show _ = some 3; decide +kernel) hl.1 rfl (Nat.le_of_ble_eq_true rfl) dX11_isVehicle_8 ⟨Nat.le_of_ble_eq_true rfl, Nat.le_of_ble_eq_true rfl⟩) hS (fun _ h => False.elim h) (fun t H locs ht hvm _ _ hk hS => ?_)
  have hw := m_kept hw hk
  exact ct_z C hr hlocks (b2i_z _) (by rw [isV_eq hn]) (fun t ht hW => m_post hw ht hW) hS (Nat.le_of_ble_eq_true rfl) (Nat.le_of_ble_eq_true rfl) dX11_isVehicle_11
set_option maxHeartbeats 400000 in
set_option maxRecDepth 100000 in
/-- WEIGHT -/
theorem c_X11_weightOf (l : Launch) (D : va_G) (A : Nat → Prop) (q : Nat → Nat) (cI n : Nat) (F : Nat → Nat → Int32) (B G : Nat → Int32) (cnt : Int32) (r : Nat → Int32) (thr dv : Int32) (j k : Nat) (hj : j < 24) (hk : k < 9) (hF : F j 2 = nI k)  : Ct l yX11_weightOf (.code yX11_weightOf cX11_weightOf 4 (some .int)) ({ frames := 0, cells := 0, slots := 0, locals := 0 }) A [.ref (q 0), .int (nI j)] (Mp D A q cI n F B G cnt r thr dv) (.inl (some (.int (wR k F j)))) (Mp D A q cI n F (wBk k B) G cnt r thr dv) := by
  refine ct_mk (by decide) (Nat.le_of_ble_eq_true rfl) (fun p e s m below meth c ls C hr hlocks hnm htab hP hl => ?_)
  have hw := hP
  have hS : va_S A s.heap s.heap [] := va_S.rf
  have hl : lv_has ls 4 [(0, .ref (q 0)), (1, .int (nI j))] := hl
  rcases (show k = 0 ∨ k = 1 ∨ k = 2 ∨ k = 3 ∨ k = 4 ∨ k = 5 ∨ k = 6 ∨ k = 7 ∨ k = 8 by omega) with rfl | rfl | rfl | rfl | rfl | rfl | rfl | rfl | rfl
  · refine lv_aload_n C.1 C.2.1 dX11_weightOf_0 rfl (lv_at hl 0 rfl) ?_
    refine mg_get C hw 2 (by decide) tb_710 rfl dX11_weightOf_1 ?_
    refine lv_iload_n C.1 C.2.1 dX11_weightOf_4 rfl (lv_at hl 1 rfl) ?_
    refine ma_kind C hw hj rfl dX11_weightOf_5 ?_
    rw [hF]
    refine lv_istore_n (lv' := [(2, .int (nI 0)), (0, .ref (q 0)), (1, .int (nI j))]) C.1 C.2.1 dX11_weightOf_6 rfl hl (by decide) rfl (fun ls hl => ?_)
    refine m_bump C hw tb_720 (lv_at hl 1 rfl) dX11_weightOf_7 dX11_weightOf_8 ?_
    refine lv_iconst (v := 0) C.1 C.2.1 dX11_weightOf_11 (by decide) ?_
    refine m_inc C hw hS (j := 0) (by decide) (by decide) dX11_weightOf_12 dX11_weightOf_13 dX11_weightOf_14 dX11_weightOf_15 dX11_weightOf_16 (fun H locs hw hS => ?_)
    refine lv_iload_n C.1 C.2.1 dX11_weightOf_17 rfl (lv_at hl 0 rfl) ?_
    refine lv_iconst (v := 4) C.1 C.2.1 dX11_weightOf_18 (by decide) ?_
    refine lv_icmp_lt (tgt := 28) C.1 C.2.1 dX11_weightOf_19 (by decide) (fun _ => ?_) (fun h9 => absurd (by decide) h9)
    refine lv_aload_n C.1 C.2.1 dX11_weightOf_28 rfl (lv_at hl 1 rfl) ?_
    refine mg_get C hw 3 (by decide) tb_711 rfl dX11_weightOf_29 ?_
    refine lv_iload_n C.1 C.2.1 dX11_weightOf_32 rfl (lv_at hl 2 rfl) ?_
    refine ma_mass C hw hj rfl dX11_weightOf_33 ?_
    exact ct_i C hr hlocks rfl (fun t ht hW => m_post hw ht hW) hS (Nat.le_of_ble_eq_true rfl) (Nat.le_of_ble_eq_true rfl) dX11_weightOf_34
  · refine lv_aload_n C.1 C.2.1 dX11_weightOf_0 rfl (lv_at hl 0 rfl) ?_
    refine mg_get C hw 2 (by decide) tb_710 rfl dX11_weightOf_1 ?_
    refine lv_iload_n C.1 C.2.1 dX11_weightOf_4 rfl (lv_at hl 1 rfl) ?_
    refine ma_kind C hw hj rfl dX11_weightOf_5 ?_
    rw [hF]
    refine lv_istore_n (lv' := [(2, .int (nI 1)), (0, .ref (q 0)), (1, .int (nI j))]) C.1 C.2.1 dX11_weightOf_6 rfl hl (by decide) rfl (fun ls hl => ?_)
    refine m_bump C hw tb_720 (lv_at hl 1 rfl) dX11_weightOf_7 dX11_weightOf_8 ?_
    refine lv_iconst (v := 0) C.1 C.2.1 dX11_weightOf_11 (by decide) ?_
    refine m_inc C hw hS (j := 0) (by decide) (by decide) dX11_weightOf_12 dX11_weightOf_13 dX11_weightOf_14 dX11_weightOf_15 dX11_weightOf_16 (fun H locs hw hS => ?_)
    refine lv_iload_n C.1 C.2.1 dX11_weightOf_17 rfl (lv_at hl 0 rfl) ?_
    refine lv_iconst (v := 4) C.1 C.2.1 dX11_weightOf_18 (by decide) ?_
    refine lv_icmp_lt (tgt := 28) C.1 C.2.1 dX11_weightOf_19 (by decide) (fun _ => ?_) (fun h9 => absurd (by decide) h9)
    refine lv_aload_n C.1 C.2.1 dX11_weightOf_28 rfl (lv_at hl 1 rfl) ?_
    refine mg_get C hw 3 (by decide) tb_711 rfl dX11_weightOf_29 ?_
    refine lv_iload_n C.1 C.2.1 dX11_weightOf_32 rfl (lv_at hl 2 rfl) ?_
    refine ma_mass C hw hj rfl dX11_weightOf_33 ?_
    exact ct_i C hr hlocks rfl (fun t ht hW => m_post hw ht hW) hS (Nat.le_of_ble_eq_true rfl) (Nat.le_of_ble_eq_true rfl) dX11_weightOf_34
  · refine lv_aload_n C.1 C.2.1 dX11_weightOf_0 rfl (lv_at hl 0 rfl) ?_
    refine mg_get C hw 2 (by decide) tb_710 rfl dX11_weightOf_1 ?_
    refine lv_iload_n C.1 C.2.1 dX11_weightOf_4 rfl (lv_at hl 1 rfl) ?_
    refine ma_kind C hw hj rfl dX11_weightOf_5 ?_
    rw [hF]
    refine lv_istore_n (lv' := [(2, .int (nI 2)), (0, .ref (q 0)), (1, .int (nI j))]) C.1 C.2.1 dX11_weightOf_6 rfl hl (by decide) rfl (fun ls hl => ?_)
    refine m_bump C hw tb_720 (lv_at hl 1 rfl) dX11_weightOf_7 dX11_weightOf_8 ?_
    refine lv_iconst (v := 0) C.1 C.2.1 dX11_weightOf_11 (by decide) ?_
    refine m_inc C hw hS (j := 0) (by decide) (by decide) dX11_weightOf_12 dX11_weightOf_13 dX11_weightOf_14 dX11_weightOf_15 dX11_weightOf_16 (fun H locs hw hS => ?_)
    refine lv_iload_n C.1 C.2.1 dX11_weightOf_17 rfl (lv_at hl 0 rfl) ?_
    refine lv_iconst (v := 4) C.1 C.2.1 dX11_weightOf_18 (by decide) ?_
    refine lv_icmp_lt (tgt := 28) C.1 C.2.1 dX11_weightOf_19 (by decide) (fun _ => ?_) (fun h9 => absurd (by decide) h9)
    refine lv_aload_n C.1 C.2.1 dX11_weightOf_28 rfl (lv_at hl 1 rfl) ?_
    refine mg_get C hw 3 (by decide) tb_711 rfl dX11_weightOf_29 ?_
    refine lv_iload_n C.1 C.2.1 dX11_weightOf_32 rfl (lv_at hl 2 rfl) ?_
    refine ma_mass C hw hj rfl dX11_weightOf_33 ?_
    exact ct_i C hr hlocks rfl (fun t ht hW => m_post hw ht hW) hS (Nat.le_of_ble_eq_true rfl) (Nat.le_of_ble_eq_true rfl) dX11_weightOf_34
  · refine lv_aload_n C.1 C.2.1 dX11_weightOf_0 rfl (lv_at hl 0 rfl) ?_
    refine mg_get C hw 2 (by decide) tb_710 rfl dX11_weightOf_1 ?_
    refine lv_iload_n C.1 C.2.1 dX11_weightOf_4 rfl (lv_at hl 1 rfl) ?_
    refine ma_kind C hw hj rfl dX11_weightOf_5 ?_
    rw [hF]
    refine lv_istore_n (lv' := [(2, .int (nI 3)), (0, .ref (q 0)), (1, .int (nI j))]) C.1 C.2.1 dX11_weightOf_6 rfl hl (by decide) rfl (fun ls hl => ?_)
    refine m_bump C hw tb_720 (lv_at hl 1 rfl) dX11_weightOf_7 dX11_weightOf_8 ?_
    refine lv_iconst (v := 0) C.1 C.2.1 dX11_weightOf_11 (by decide) ?_
    refine m_inc C hw hS (j := 0) (by decide) (by decide) dX11_weightOf_12 dX11_weightOf_13 dX11_weightOf_14 dX11_weightOf_15 dX11_weightOf_16 (fun H locs hw hS => ?_)
    refine lv_iload_n C.1 C.2.1 dX11_weightOf_17 rfl (lv_at hl 0 rfl) ?_
    refine lv_iconst (v := 4) C.1 C.2.1 dX11_weightOf_18 (by decide) ?_
    refine lv_icmp_lt (tgt := 28) C.1 C.2.1 dX11_weightOf_19 (by decide) (fun _ => ?_) (fun h9 => absurd (by decide) h9)
    refine lv_aload_n C.1 C.2.1 dX11_weightOf_28 rfl (lv_at hl 1 rfl) ?_
    refine mg_get C hw 3 (by decide) tb_711 rfl dX11_weightOf_29 ?_
    refine lv_iload_n C.1 C.2.1 dX11_weightOf_32 rfl (lv_at hl 2 rfl) ?_
    refine ma_mass C hw hj rfl dX11_weightOf_33 ?_
    exact ct_i C hr hlocks rfl (fun t ht hW => m_post hw ht hW) hS (Nat.le_of_ble_eq_true rfl) (Nat.le_of_ble_eq_true rfl) dX11_weightOf_34
  · refine lv_aload_n C.1 C.2.1 dX11_weightOf_0 rfl (lv_at hl 0 rfl) ?_
    refine mg_get C hw 2 (by decide) tb_710 rfl dX11_weightOf_1 ?_
    refine lv_iload_n C.1 C.2.1 dX11_weightOf_4 rfl (lv_at hl 1 rfl) ?_
    refine ma_kind C hw hj rfl dX11_weightOf_5 ?_
    rw [hF]
    refine lv_istore_n (lv' := [(2, .int (nI 4)), (0, .ref (q 0)), (1, .int (nI j))]) C.1 C.2.1 dX11_weightOf_6 rfl hl (by decide) rfl (fun ls hl => ?_)
    refine m_bump C hw tb_720 (lv_at hl 1 rfl) dX11_weightOf_7 dX11_weightOf_8 ?_
    refine lv_iconst (v := 0) C.1 C.2.1 dX11_weightOf_11 (by decide) ?_
    refine m_inc C hw hS (j := 0) (by decide) (by decide) dX11_weightOf_12 dX11_weightOf_13 dX11_weightOf_14 dX11_weightOf_15 dX11_weightOf_16 (fun H locs hw hS => ?_)
    refine lv_iload_n C.1 C.2.1 dX11_weightOf_17 rfl (lv_at hl 0 rfl) ?_
    refine lv_iconst (v := 4) C.1 C.2.1 dX11_weightOf_18 (by decide) ?_
    refine lv_icmp_lt (tgt := 28) C.1 C.2.1 dX11_weightOf_19 (by decide) (fun h9 => absurd h9 (by decide)) (fun _ => ?_)
    refine lv_iload_n C.1 C.2.1 dX11_weightOf_22 rfl (lv_at hl 0 rfl) ?_
    refine lv_bipush (v := 8) C.1 C.2.1 dX11_weightOf_23 (by decide) ?_
    refine lv_icmp_ne (tgt := 35) C.1 C.2.1 dX11_weightOf_25 (by decide) (fun _ => ?_) (fun h9 => absurd h9 (by decide))
    refine m_bump C hw tb_720 (lv_at hl 1 rfl) dX11_weightOf_35 dX11_weightOf_36 ?_
    refine lv_iconst (v := 4) C.1 C.2.1 dX11_weightOf_39 (by decide) ?_
    refine m_inc C hw hS (j := 4) (by decide) (by decide) dX11_weightOf_40 dX11_weightOf_41 dX11_weightOf_42 dX11_weightOf_43 dX11_weightOf_44 (fun H locs hw hS => ?_)
    refine lv_aload_n C.1 C.2.1 dX11_weightOf_45 rfl (lv_at hl 1 rfl) ?_
    refine mg_get C hw 3 (by decide) tb_711 rfl dX11_weightOf_46 ?_
    refine lv_iload_n C.1 C.2.1 dX11_weightOf_49 rfl (lv_at hl 2 rfl) ?_
    refine ma_mass C hw hj rfl dX11_weightOf_50 ?_
    refine lv_aload_n C.1 C.2.1 dX11_weightOf_51 rfl (lv_at hl 1 rfl) ?_
    refine mg_get C hw 4 (by decide) tb_712 rfl dX11_weightOf_52 ?_
    refine lv_iload_n C.1 C.2.1 dX11_weightOf_55 rfl (lv_at hl 2 rfl) ?_
    refine ma_load C hw hj rfl dX11_weightOf_56 ?_
    refine lv_iadd C.1 C.2.1 dX11_weightOf_57 ?_
    refine lv_istore_n (lv' := [(3, .int ((F j 3) + (F j 5))), (2, .int (nI 4)), (0, .ref (q 0)), (1, .int (nI j))]) C.1 C.2.1 dX11_weightOf_58 rfl hl (by decide) rfl (fun ls hl => ?_)
    refine lv_iload_n C.1 C.2.1 dX11_weightOf_59 rfl (lv_at hl 1 rfl) ?_
    refine lv_iconst (v := 5) C.1 C.2.1 dX11_weightOf_60 (by decide) ?_
    refine lv_icmp_ne (tgt := 88) C.1 C.2.1 dX11_weightOf_61 (by decide) (fun _ => ?_) (fun h9 => absurd h9 (by decide))
    refine lv_iload_n C.1 C.2.1 dX11_weightOf_88 rfl (lv_at hl 1 rfl) ?_
    refine lv_bipush (v := 7) C.1 C.2.1 dX11_weightOf_89 (by decide) ?_
    refine lv_icmp_ne (tgt := 108) C.1 C.2.1 dX11_weightOf_91 (by decide) (fun _ => ?_) (fun h9 => absurd h9 (by decide))
    refine lv_iload_n C.1 C.2.1 dX11_weightOf_108 rfl (lv_at hl 0 rfl) ?_
    rw [iB_comm B 0 4] at hw
    exact ct_i C hr hlocks rfl (fun t ht hW => m_post hw ht hW) hS (Nat.le_of_ble_eq_true rfl) (Nat.le_of_ble_eq_true rfl) dX11_weightOf_109
  · refine lv_aload_n C.1 C.2.1 dX11_weightOf_0 rfl (lv_at hl 0 rfl) ?_
    refine mg_get C hw 2 (by decide) tb_710 rfl dX11_weightOf_1 ?_
    refine lv_iload_n C.1 C.2.1 dX11_weightOf_4 rfl (lv_at hl 1 rfl) ?_
    refine ma_kind C hw hj rfl dX11_weightOf_5 ?_
    rw [hF]
    refine lv_istore_n (lv' := [(2, .int (nI 5)), (0, .ref (q 0)), (1, .int (nI j))]) C.1 C.2.1 dX11_weightOf_6 rfl hl (by decide) rfl (fun ls hl => ?_)
    refine m_bump C hw tb_720 (lv_at hl 1 rfl) dX11_weightOf_7 dX11_weightOf_8 ?_
    refine lv_iconst (v := 0) C.1 C.2.1 dX11_weightOf_11 (by decide) ?_
    refine m_inc C hw hS (j := 0) (by decide) (by decide) dX11_weightOf_12 dX11_weightOf_13 dX11_weightOf_14 dX11_weightOf_15 dX11_weightOf_16 (fun H locs hw hS => ?_)
    refine lv_iload_n C.1 C.2.1 dX11_weightOf_17 rfl (lv_at hl 0 rfl) ?_
    refine lv_iconst (v := 4) C.1 C.2.1 dX11_weightOf_18 (by decide) ?_
    refine lv_icmp_lt (tgt := 28) C.1 C.2.1 dX11_weightOf_19 (by decide) (fun h9 => absurd h9 (by decide)) (fun _ => ?_)
    refine lv_iload_n C.1 C.2.1 dX11_weightOf_22 rfl (lv_at hl 0 rfl) ?_
    refine lv_bipush (v := 8) C.1 C.2.1 dX11_weightOf_23 (by decide) ?_
    refine lv_icmp_ne (tgt := 35) C.1 C.2.1 dX11_weightOf_25 (by decide) (fun _ => ?_) (fun h9 => absurd h9 (by decide))
    refine m_bump C hw tb_720 (lv_at hl 1 rfl) dX11_weightOf_35 dX11_weightOf_36 ?_
    refine lv_iconst (v := 4) C.1 C.2.1 dX11_weightOf_39 (by decide) ?_
    refine m_inc C hw hS (j := 4) (by decide) (by decide) dX11_weightOf_40 dX11_weightOf_41 dX11_weightOf_42 dX11_weightOf_43 dX11_weightOf_44 (fun H locs hw hS => ?_)
    refine lv_aload_n C.1 C.2.1 dX11_weightOf_45 rfl (lv_at hl 1 rfl) ?_
    refine mg_get C hw 3 (by decide) tb_711 rfl dX11_weightOf_46 ?_
    refine lv_iload_n C.1 C.2.1 dX11_weightOf_49 rfl (lv_at hl 2 rfl) ?_
    refine ma_mass C hw hj rfl dX11_weightOf_50 ?_
    refine lv_aload_n C.1 C.2.1 dX11_weightOf_51 rfl (lv_at hl 1 rfl) ?_
    refine mg_get C hw 4 (by decide) tb_712 rfl dX11_weightOf_52 ?_
    refine lv_iload_n C.1 C.2.1 dX11_weightOf_55 rfl (lv_at hl 2 rfl) ?_
    refine ma_load C hw hj rfl dX11_weightOf_56 ?_
    refine lv_iadd C.1 C.2.1 dX11_weightOf_57 ?_
    refine lv_istore_n (lv' := [(3, .int ((F j 3) + (F j 5))), (2, .int (nI 5)), (0, .ref (q 0)), (1, .int (nI j))]) C.1 C.2.1 dX11_weightOf_58 rfl hl (by decide) rfl (fun ls hl => ?_)
    refine lv_iload_n C.1 C.2.1 dX11_weightOf_59 rfl (lv_at hl 1 rfl) ?_
    refine lv_iconst (v := 5) C.1 C.2.1 dX11_weightOf_60 (by decide) ?_
    refine lv_icmp_ne (tgt := 88) C.1 C.2.1 dX11_weightOf_61 (by decide) (fun h9 => absurd (by decide) h9) (fun _ => ?_)
    refine m_bump C hw tb_720 (lv_at hl 2 rfl) dX11_weightOf_64 dX11_weightOf_65 ?_
    refine lv_iconst (v := 5) C.1 C.2.1 dX11_weightOf_68 (by decide) ?_
    refine m_inc C hw hS (j := 5) (by decide) (by decide) dX11_weightOf_69 dX11_weightOf_70 dX11_weightOf_71 dX11_weightOf_72 dX11_weightOf_73 (fun H locs hw hS => ?_)
    refine lv_iload_n C.1 C.2.1 dX11_weightOf_74 rfl (lv_at hl 0 rfl) ?_
    refine lv_aload_n C.1 C.2.1 dX11_weightOf_75 rfl (lv_at hl 2 rfl) ?_
    refine mg_get C hw 4 (by decide) tb_712 rfl dX11_weightOf_76 ?_
    refine lv_iload_n C.1 C.2.1 dX11_weightOf_79 rfl (lv_at hl 3 rfl) ?_
    refine ma_load C hw hj rfl dX11_weightOf_80 ?_
    refine lv_iconst (v := 4) C.1 C.2.1 dX11_weightOf_81 (by decide) ?_
    refine lv_idiv C.1 C.2.1 dX11_weightOf_82 (by decide) ?_
    refine lv_iadd C.1 C.2.1 dX11_weightOf_83 ?_
    refine lv_istore_n (lv' := [(3, .int (((F j 3) + (F j 5)) + ((F j 5) / (4)))), (2, .int (nI 5)), (0, .ref (q 0)), (1, .int (nI j))]) C.1 C.2.1 dX11_weightOf_84 rfl hl (by decide) rfl (fun ls hl => ?_)
    refine lv_goto (tgt := 108) C.1 C.2.1 dX11_weightOf_85 (by decide) ?_
    refine lv_iload_n C.1 C.2.1 dX11_weightOf_108 rfl (lv_at hl 0 rfl) ?_
    rw [iB_comm B 0 4, iB_comm (iB B 4) 0 5, iB_comm B 4 5] at hw
    exact ct_i C hr hlocks rfl (fun t ht hW => m_post hw ht hW) hS (Nat.le_of_ble_eq_true rfl) (Nat.le_of_ble_eq_true rfl) dX11_weightOf_109
  · refine lv_aload_n C.1 C.2.1 dX11_weightOf_0 rfl (lv_at hl 0 rfl) ?_
    refine mg_get C hw 2 (by decide) tb_710 rfl dX11_weightOf_1 ?_
    refine lv_iload_n C.1 C.2.1 dX11_weightOf_4 rfl (lv_at hl 1 rfl) ?_
    refine ma_kind C hw hj rfl dX11_weightOf_5 ?_
    rw [hF]
    refine lv_istore_n (lv' := [(2, .int (nI 6)), (0, .ref (q 0)), (1, .int (nI j))]) C.1 C.2.1 dX11_weightOf_6 rfl hl (by decide) rfl (fun ls hl => ?_)
    refine m_bump C hw tb_720 (lv_at hl 1 rfl) dX11_weightOf_7 dX11_weightOf_8 ?_
    refine lv_iconst (v := 0) C.1 C.2.1 dX11_weightOf_11 (by decide) ?_
    refine m_inc C hw hS (j := 0) (by decide) (by decide) dX11_weightOf_12 dX11_weightOf_13 dX11_weightOf_14 dX11_weightOf_15 dX11_weightOf_16 (fun H locs hw hS => ?_)
    refine lv_iload_n C.1 C.2.1 dX11_weightOf_17 rfl (lv_at hl 0 rfl) ?_
    refine lv_iconst (v := 4) C.1 C.2.1 dX11_weightOf_18 (by decide) ?_
    refine lv_icmp_lt (tgt := 28) C.1 C.2.1 dX11_weightOf_19 (by decide) (fun h9 => absurd h9 (by decide)) (fun _ => ?_)
    refine lv_iload_n C.1 C.2.1 dX11_weightOf_22 rfl (lv_at hl 0 rfl) ?_
    refine lv_bipush (v := 8) C.1 C.2.1 dX11_weightOf_23 (by decide) ?_
    refine lv_icmp_ne (tgt := 35) C.1 C.2.1 dX11_weightOf_25 (by decide) (fun _ => ?_) (fun h9 => absurd h9 (by decide))
    refine m_bump C hw tb_720 (lv_at hl 1 rfl) dX11_weightOf_35 dX11_weightOf_36 ?_
    refine lv_iconst (v := 4) C.1 C.2.1 dX11_weightOf_39 (by decide) ?_
    refine m_inc C hw hS (j := 4) (by decide) (by decide) dX11_weightOf_40 dX11_weightOf_41 dX11_weightOf_42 dX11_weightOf_43 dX11_weightOf_44 (fun H locs hw hS => ?_)
    refine lv_aload_n C.1 C.2.1 dX11_weightOf_45 rfl (lv_at hl 1 rfl) ?_
    refine mg_get C hw 3 (by decide) tb_711 rfl dX11_weightOf_46 ?_
    refine lv_iload_n C.1 C.2.1 dX11_weightOf_49 rfl (lv_at hl 2 rfl) ?_
    refine ma_mass C hw hj rfl dX11_weightOf_50 ?_
    refine lv_aload_n C.1 C.2.1 dX11_weightOf_51 rfl (lv_at hl 1 rfl) ?_
    refine mg_get C hw 4 (by decide) tb_712 rfl dX11_weightOf_52 ?_
    refine lv_iload_n C.1 C.2.1 dX11_weightOf_55 rfl (lv_at hl 2 rfl) ?_
    refine ma_load C hw hj rfl dX11_weightOf_56 ?_
    refine lv_iadd C.1 C.2.1 dX11_weightOf_57 ?_
    refine lv_istore_n (lv' := [(3, .int ((F j 3) + (F j 5))), (2, .int (nI 6)), (0, .ref (q 0)), (1, .int (nI j))]) C.1 C.2.1 dX11_weightOf_58 rfl hl (by decide) rfl (fun ls hl => ?_)
    refine lv_iload_n C.1 C.2.1 dX11_weightOf_59 rfl (lv_at hl 1 rfl) ?_
    refine lv_iconst (v := 5) C.1 C.2.1 dX11_weightOf_60 (by decide) ?_
    refine lv_icmp_ne (tgt := 88) C.1 C.2.1 dX11_weightOf_61 (by decide) (fun _ => ?_) (fun h9 => absurd h9 (by decide))
    refine lv_iload_n C.1 C.2.1 dX11_weightOf_88 rfl (lv_at hl 1 rfl) ?_
    refine lv_bipush (v := 7) C.1 C.2.1 dX11_weightOf_89 (by decide) ?_
    refine lv_icmp_ne (tgt := 108) C.1 C.2.1 dX11_weightOf_91 (by decide) (fun _ => ?_) (fun h9 => absurd h9 (by decide))
    refine lv_iload_n C.1 C.2.1 dX11_weightOf_108 rfl (lv_at hl 0 rfl) ?_
    rw [iB_comm B 0 4] at hw
    exact ct_i C hr hlocks rfl (fun t ht hW => m_post hw ht hW) hS (Nat.le_of_ble_eq_true rfl) (Nat.le_of_ble_eq_true rfl) dX11_weightOf_109
  · refine lv_aload_n C.1 C.2.1 dX11_weightOf_0 rfl (lv_at hl 0 rfl) ?_
    refine mg_get C hw 2 (by decide) tb_710 rfl dX11_weightOf_1 ?_
    refine lv_iload_n C.1 C.2.1 dX11_weightOf_4 rfl (lv_at hl 1 rfl) ?_
    refine ma_kind C hw hj rfl dX11_weightOf_5 ?_
    rw [hF]
    refine lv_istore_n (lv' := [(2, .int (nI 7)), (0, .ref (q 0)), (1, .int (nI j))]) C.1 C.2.1 dX11_weightOf_6 rfl hl (by decide) rfl (fun ls hl => ?_)
    refine m_bump C hw tb_720 (lv_at hl 1 rfl) dX11_weightOf_7 dX11_weightOf_8 ?_
    refine lv_iconst (v := 0) C.1 C.2.1 dX11_weightOf_11 (by decide) ?_
    refine m_inc C hw hS (j := 0) (by decide) (by decide) dX11_weightOf_12 dX11_weightOf_13 dX11_weightOf_14 dX11_weightOf_15 dX11_weightOf_16 (fun H locs hw hS => ?_)
    refine lv_iload_n C.1 C.2.1 dX11_weightOf_17 rfl (lv_at hl 0 rfl) ?_
    refine lv_iconst (v := 4) C.1 C.2.1 dX11_weightOf_18 (by decide) ?_
    refine lv_icmp_lt (tgt := 28) C.1 C.2.1 dX11_weightOf_19 (by decide) (fun h9 => absurd h9 (by decide)) (fun _ => ?_)
    refine lv_iload_n C.1 C.2.1 dX11_weightOf_22 rfl (lv_at hl 0 rfl) ?_
    refine lv_bipush (v := 8) C.1 C.2.1 dX11_weightOf_23 (by decide) ?_
    refine lv_icmp_ne (tgt := 35) C.1 C.2.1 dX11_weightOf_25 (by decide) (fun _ => ?_) (fun h9 => absurd h9 (by decide))
    refine m_bump C hw tb_720 (lv_at hl 1 rfl) dX11_weightOf_35 dX11_weightOf_36 ?_
    refine lv_iconst (v := 4) C.1 C.2.1 dX11_weightOf_39 (by decide) ?_
    refine m_inc C hw hS (j := 4) (by decide) (by decide) dX11_weightOf_40 dX11_weightOf_41 dX11_weightOf_42 dX11_weightOf_43 dX11_weightOf_44 (fun H locs hw hS => ?_)
    refine lv_aload_n C.1 C.2.1 dX11_weightOf_45 rfl (lv_at hl 1 rfl) ?_
    refine mg_get C hw 3 (by decide) tb_711 rfl dX11_weightOf_46 ?_
    refine lv_iload_n C.1 C.2.1 dX11_weightOf_49 rfl (lv_at hl 2 rfl) ?_
    refine ma_mass C hw hj rfl dX11_weightOf_50 ?_
    refine lv_aload_n C.1 C.2.1 dX11_weightOf_51 rfl (lv_at hl 1 rfl) ?_
    refine mg_get C hw 4 (by decide) tb_712 rfl dX11_weightOf_52 ?_
    refine lv_iload_n C.1 C.2.1 dX11_weightOf_55 rfl (lv_at hl 2 rfl) ?_
    refine ma_load C hw hj rfl dX11_weightOf_56 ?_
    refine lv_iadd C.1 C.2.1 dX11_weightOf_57 ?_
    refine lv_istore_n (lv' := [(3, .int ((F j 3) + (F j 5))), (2, .int (nI 7)), (0, .ref (q 0)), (1, .int (nI j))]) C.1 C.2.1 dX11_weightOf_58 rfl hl (by decide) rfl (fun ls hl => ?_)
    refine lv_iload_n C.1 C.2.1 dX11_weightOf_59 rfl (lv_at hl 1 rfl) ?_
    refine lv_iconst (v := 5) C.1 C.2.1 dX11_weightOf_60 (by decide) ?_
    refine lv_icmp_ne (tgt := 88) C.1 C.2.1 dX11_weightOf_61 (by decide) (fun _ => ?_) (fun h9 => absurd h9 (by decide))
    refine lv_iload_n C.1 C.2.1 dX11_weightOf_88 rfl (lv_at hl 1 rfl) ?_
    refine lv_bipush (v := 7) C.1 C.2.1 dX11_weightOf_89 (by decide) ?_
    refine lv_icmp_ne (tgt := 108) C.1 C.2.1 dX11_weightOf_91 (by decide) (fun h9 => absurd (by decide) h9) (fun _ => ?_)
    refine m_bump C hw tb_720 (lv_at hl 2 rfl) dX11_weightOf_94 dX11_weightOf_95 ?_
    refine lv_bipush (v := 7) C.1 C.2.1 dX11_weightOf_98 (by decide) ?_
    refine m_inc C hw hS (j := 7) (by decide) (by decide) dX11_weightOf_100 dX11_weightOf_101 dX11_weightOf_102 dX11_weightOf_103 dX11_weightOf_104 (fun H locs hw hS => ?_)
    obtain ⟨y1, ey1⟩ : ∃ z : Int32, z = (F j 3) + (F j 5) + -10 := ⟨_, rfl⟩
    refine lv_iinc (v := y1) (lv' := [(3, .int (y1)), (2, .int (nI 7)), (0, .ref (q 0)), (1, .int (nI j))]) C.1 C.2.1 dX11_weightOf_105 hl (k := 0) rfl (by rw [ey1]; rfl) (by decide) rfl (fun ls hl => ?_)
    refine lv_iload_n C.1 C.2.1 dX11_weightOf_108 rfl (lv_at hl 0 rfl) ?_
    rw [iB_comm B 0 4, iB_comm (iB B 4) 0 7, iB_comm B 4 7] at hw
    exact ct_i C hr hlocks (by rw [ey1, show wR 7 F j = F j 3 + F j 5 - 10 from rfl, Int32.sub_eq_add_neg]) (fun t ht hW => m_post hw ht hW) hS (Nat.le_of_ble_eq_true rfl) (Nat.le_of_ble_eq_true rfl) dX11_weightOf_109
  · refine lv_aload_n C.1 C.2.1 dX11_weightOf_0 rfl (lv_at hl 0 rfl) ?_
    refine mg_get C hw 2 (by decide) tb_710 rfl dX11_weightOf_1 ?_
    refine lv_iload_n C.1 C.2.1 dX11_weightOf_4 rfl (lv_at hl 1 rfl) ?_
    refine ma_kind C hw hj rfl dX11_weightOf_5 ?_
    rw [hF]
    refine lv_istore_n (lv' := [(2, .int (nI 8)), (0, .ref (q 0)), (1, .int (nI j))]) C.1 C.2.1 dX11_weightOf_6 rfl hl (by decide) rfl (fun ls hl => ?_)
    refine m_bump C hw tb_720 (lv_at hl 1 rfl) dX11_weightOf_7 dX11_weightOf_8 ?_
    refine lv_iconst (v := 0) C.1 C.2.1 dX11_weightOf_11 (by decide) ?_
    refine m_inc C hw hS (j := 0) (by decide) (by decide) dX11_weightOf_12 dX11_weightOf_13 dX11_weightOf_14 dX11_weightOf_15 dX11_weightOf_16 (fun H locs hw hS => ?_)
    refine lv_iload_n C.1 C.2.1 dX11_weightOf_17 rfl (lv_at hl 0 rfl) ?_
    refine lv_iconst (v := 4) C.1 C.2.1 dX11_weightOf_18 (by decide) ?_
    refine lv_icmp_lt (tgt := 28) C.1 C.2.1 dX11_weightOf_19 (by decide) (fun h9 => absurd h9 (by decide)) (fun _ => ?_)
    refine lv_iload_n C.1 C.2.1 dX11_weightOf_22 rfl (lv_at hl 0 rfl) ?_
    refine lv_bipush (v := 8) C.1 C.2.1 dX11_weightOf_23 (by decide) ?_
    refine lv_icmp_ne (tgt := 35) C.1 C.2.1 dX11_weightOf_25 (by decide) (fun h9 => absurd (by decide) h9) (fun _ => ?_)
    refine lv_aload_n C.1 C.2.1 dX11_weightOf_28 rfl (lv_at hl 1 rfl) ?_
    refine mg_get C hw 3 (by decide) tb_711 rfl dX11_weightOf_29 ?_
    refine lv_iload_n C.1 C.2.1 dX11_weightOf_32 rfl (lv_at hl 2 rfl) ?_
    refine ma_mass C hw hj rfl dX11_weightOf_33 ?_
    exact ct_i C hr hlocks rfl (fun t ht hW => m_post hw ht hW) hS (Nat.le_of_ble_eq_true rfl) (Nat.le_of_ble_eq_true rfl) dX11_weightOf_34
set_option maxHeartbeats 400000 in
set_option maxRecDepth 100000 in
/-- TOLL by CART -/
theorem c_X11_plainToll (l : Launch) (D : va_G) (A : Nat → Prop) (q : Nat → Nat) (cI n : Nat) (F : Nat → Nat → Int32) (B G : Nat → Int32) (cnt : Int32) (r : Nat → Int32) (thr dv : Int32) (j k : Nat) (hj : j < 24) (hk : k < 9) (hF : F j 2 = nI k)  : Ct l yX11_plainToll (.code yX11_plainToll cX11_plainToll 2 (some .int)) ({ frames := 1, cells := 0, slots := 0, locals := 24 }) A [.ref (q 0), .int (nI j)] (Mp D A q cI n F B G cnt r thr dv) (.inl (some (.int (tP k F j)))) (Mp D A q cI n F (tPB k B) G cnt r thr dv) := by
  refine ct_mk (by decide) (Nat.le_of_ble_eq_true rfl) (fun p e s m below meth c ls C hr hlocks hnm htab hP hl => ?_)
  have hw := hP
  have hS : va_S A s.heap s.heap [] := va_S.rf
  have hl : lv_has ls 2 [(0, .ref (q 0)), (1, .int (nI j))] := hl
  refine m_bump C hw tb_720 (lv_at hl 0 rfl) dX11_plainToll_0 dX11_plainToll_1 ?_
  refine lv_iconst (v := 0) C.1 C.2.1 dX11_plainToll_4 (by decide) ?_
  refine m_inc C hw hS (j := 0) (by decide) (by decide) dX11_plainToll_5 dX11_plainToll_6 dX11_plainToll_7 dX11_plainToll_8 dX11_plainToll_9 (fun H locs hw hS => ?_)
  refine lv_iconst (v := 5) C.1 C.2.1 dX11_plainToll_10 (by decide) ?_
  refine lv_aload_n C.1 C.2.1 dX11_plainToll_11 rfl (lv_at hl 0 rfl) ?_
  refine lv_iload_n C.1 C.2.1 dX11_plainToll_12 rfl (lv_at hl 1 rfl) ?_
  refine ct_ret (ct_V0 C (c_X11_weightOf l D A q _ _ _ _ _ _ _ _ _ j k hj hk hF) Mp_bl (Or.inl rfl) tb_785 tb_3 ⟨Nat.le_of_ble_eq_true rfl, Nat.le_of_ble_eq_true rfl⟩ tb_782 ⟨by decide, by decide⟩ tbp_4 tb_784 (m_recv hw) (fun U hU hW => m_post hw hU hW) (sig_code (C.2.2.2.2 _ tb_785)) (by show _ = some 1; decide +kernel) hl.1 rfl (Nat.le_of_ble_eq_true rfl) dX11_plainToll_13 ⟨Nat.le_of_ble_eq_true rfl, Nat.le_of_ble_eq_true rfl⟩) hS (fun _ h => h) (fun t H locs ht hvm hw _ _ hS => ?_)
  have hw := m_back hw ht hvm
  refine lv_bipush (v := 100) C.1 C.2.1 dX11_plainToll_16 (by decide) ?_
  refine lv_idiv C.1 C.2.1 dX11_plainToll_18 (by decide) ?_
  refine lv_iadd C.1 C.2.1 dX11_plainToll_19 ?_
  exact ct_i C hr hlocks rfl (fun t ht hW => m_post hw ht hW) hS (Nat.le_of_ble_eq_true rfl) (Nat.le_of_ble_eq_true rfl) dX11_plainToll_20
