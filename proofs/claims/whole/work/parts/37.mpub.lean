theorem vAt_x {n j : Nat} {x : Int32} (h : vAt n x = some j) : x = nI j := by
  unfold vAt at h
  by_cases h0 : x < 0
  · rw [if_pos h0] at h; cases h
  · rw [if_neg h0] at h
    by_cases h1 : x.toNatClampNeg < n
    · rw [if_pos h1] at h
      cases h
      obtain ⟨k, hk, rfl⟩ := nI_of h0
      rw [nI_clamp hk]
    · rw [if_neg h1] at h; cases h
theorem ifn_p {b : Bool} {α : Type} {x y : α} (h : b2i (!b) = 0) : (if b = true then x else y) = x := if_pos (by cases b; exact absurd h (by decide); rfl)
theorem ifn_n {b : Bool} {α : Type} {x y : α} (h : ¬ b2i (!b) = 0) : (if b = true then x else y) = y := if_neg (by cases b; decide; exact absurd rfl h)
theorem upd_eq {G : Nat → Int32} {k : Nat} {v : Int32} (h : G k = v) : upd G k v = G := by
  funext a
  unfold upd
  by_cases q : a = k
  · rw [if_pos q, q, h]
  · rw [if_neg q]
set_option maxHeartbeats 400000 in
set_option maxRecDepth 100000 in
/-- WEIGHT -/
theorem c_X11_weight (l : Launch) (D : va_G) (A : Nat → Prop) (P : SwP) (q : Nat → Nat) (cI : Nat) (F : Nat → Nat → Int32) (B G : Nat → Int32) (dk : List Nat) (thr : Int32) (x : Int32) (hI : Inv P (F, B, G, dk)) : Ct l yX11_weight (.code yX11_weight cX11_weight 2 (some .int)) ({ frames := 6, cells := 0, slots := 0, locals := 160 }) A [.ref (q 0), .int x] (Mz D A q cI (pn P) F B G dk thr) (.inl (some (.int (oWeight (pk P) (pn P) x (F, B, G, dk)).2.1))) (Mz D A q cI (pn P) (oWeight (pk P) (pn P) x (F, B, G, dk)).2.2.1 (oWeight (pk P) (pn P) x (F, B, G, dk)).2.2.2.1 (oWeight (pk P) (pn P) x (F, B, G, dk)).2.2.2.2.1 (oWeight (pk P) (pn P) x (F, B, G, dk)).2.2.2.2.2 0) := by
  refine ct_mk (by decide) (Nat.le_of_ble_eq_true rfl) (fun p e s m below meth c ls C hr hlocks hnm htab hP hl => ?_)
  obtain ⟨r, dv, hro, hw⟩ := hP
  have hS : va_S A s.heap s.heap [] := va_S.rf
  have hl : lv_has ls 2 [(0, .ref (q 0)), (1, .int x)] := hl
  have hO : Ok P F dk := hI.1
  cases hv : vAt (pn P) x with
  | none =>
    refine lv_aload_n C.1 C.2.1 dX11_weight_0 rfl (lv_at hl 0 rfl) ?_
    refine lv_iconst (v := 0) C.1 C.2.1 dX11_weight_1 (by decide) ?_
    refine mp_thr C hw hS tb_708 dX11_weight_2 (fun H locs hw hS => ?_)
    refine lv_aload_n C.1 C.2.1 dX11_weight_5 rfl (lv_at hl 0 rfl) ?_
    refine lv_iload_n C.1 C.2.1 dX11_weight_6 rfl (lv_at hl 1 rfl) ?_
    have hM := c_X11_isVehicle l D A q cI (pn P) F B G (nI dk.length) r 0 dv hI.1.1 x
    rw [hv] at hM
    rw [show b2i (none : Option Nat).isSome = 0 from rfl] at hM
    refine ct_ret (ct_V0 C hM Mp_bl (Or.inl rfl) tb_781 tb_3 ⟨Nat.le_of_ble_eq_true rfl, Nat.le_of_ble_eq_true rfl⟩ tb_778 ⟨by decide, by decide⟩ tbp_3 tb_780 (m_recv hw) (fun U hU hW => m_post hw hU hW) (sig_code (C.2.2.2.2 _ tb_781)) (by show _ = some 1; decide +kernel) hl.1 rfl (Nat.le_of_ble_eq_true rfl) dX11_weight_7 ⟨Nat.le_of_ble_eq_true rfl, Nat.le_of_ble_eq_true rfl⟩) hS (fun _ h => h) (fun t H locs ht hvm hw _ _ hS => ?_)
    have hw := m_back hw ht hvm
    refine lv_if_eq (tgt := 21) C.1 C.2.1 dX11_weight_10 (by decide) (fun _ => ?_) (fun h9 => absurd (by decide) h9)
    refine lv_bipush (v := -101) C.1 C.2.1 dX11_weight_21 (by decide) ?_
    rw [show (oWeight (pk P) (pn P) x (F, B, G, dk)) = _ from (onV_n hv)]
    exact ct_i C hr hlocks rfl (fun t ht hW => mz_mk hro hw ht hW) hS (Nat.le_of_ble_eq_true rfl) (Nat.le_of_ble_eq_true rfl) dX11_weight_23
  | some j =>
    have hj : j < pn P := vAt_lt hv
    have hxj := vAt_x hv
    subst hxj
    have hj24 : j < 24 := Nat.lt_of_lt_of_le hj hO.1
    have hkj : pk P j < 9 := hO.2.1 j hj
    have hF := hO.2.2.1 j hj
    refine lv_aload_n C.1 C.2.1 dX11_weight_0 rfl (lv_at hl 0 rfl) ?_
    refine lv_iconst (v := 0) C.1 C.2.1 dX11_weight_1 (by decide) ?_
    refine mp_thr C hw hS tb_708 dX11_weight_2 (fun H locs hw hS => ?_)
    refine lv_aload_n C.1 C.2.1 dX11_weight_5 rfl (lv_at hl 0 rfl) ?_
    refine lv_iload_n C.1 C.2.1 dX11_weight_6 rfl (lv_at hl 1 rfl) ?_
    have hM := c_X11_isVehicle l D A q cI (pn P) F B G (nI dk.length) r 0 dv hI.1.1 (nI j)
    rw [hv] at hM
    rw [show b2i (some j : Option Nat).isSome = 1 from rfl] at hM
    refine ct_ret (ct_V0 C hM Mp_bl (Or.inl rfl) tb_781 tb_3 ⟨Nat.le_of_ble_eq_true rfl, Nat.le_of_ble_eq_true rfl⟩ tb_778 ⟨by decide, by decide⟩ tbp_3 tb_780 (m_recv hw) (fun U hU hW => m_post hw hU hW) (sig_code (C.2.2.2.2 _ tb_781)) (by show _ = some 1; decide +kernel) hl.1 rfl (Nat.le_of_ble_eq_true rfl) dX11_weight_7 ⟨Nat.le_of_ble_eq_true rfl, Nat.le_of_ble_eq_true rfl⟩) hS (fun _ h => h) (fun t H locs ht hvm hw _ _ hS => ?_)
    have hw := m_back hw ht hvm
    refine lv_if_eq (tgt := 21) C.1 C.2.1 dX11_weight_10 (by decide) (fun h9 => absurd h9 (by decide)) (fun _ => ?_)
    refine lv_aload_n C.1 C.2.1 dX11_weight_13 rfl (lv_at hl 0 rfl) ?_
    refine lv_iload_n C.1 C.2.1 dX11_weight_14 rfl (lv_at hl 1 rfl) ?_
    refine ct_ret (ct_V0 C (c_X11_weightOf l D A q _ _ _ _ _ _ _ _ _ j (pk P j) hj24 hkj hF) Mp_bl (Or.inl rfl) tb_785 tb_3 ⟨Nat.le_of_ble_eq_true rfl, Nat.le_of_ble_eq_true rfl⟩ tb_782 ⟨by decide, by decide⟩ tbp_4 tb_784 (m_recv hw) (fun U hU hW => m_post hw hU hW) (sig_code (C.2.2.2.2 _ tb_785)) (by show _ = some 1; decide +kernel) hl.1 rfl (Nat.le_of_ble_eq_true rfl) dX11_weight_15 ⟨Nat.le_of_ble_eq_true rfl, Nat.le_of_ble_eq_true rfl⟩) hS (fun _ h => h) (fun t H locs ht hvm hw _ _ hS => ?_)
    have hw := m_back hw ht hvm
    refine lv_goto (tgt := 23) C.1 C.2.1 dX11_weight_18 (by decide) ?_
    rw [show (oWeight (pk P) (pn P) (nI j) (F, B, G, dk)) = _ from (onV_s hv)]
    exact ct_i C hr hlocks rfl (fun t ht hW => mz_mk hro hw ht hW) hS (Nat.le_of_ble_eq_true rfl) (Nat.le_of_ble_eq_true rfl) dX11_weight_23
set_option maxHeartbeats 400000 in
set_option maxRecDepth 100000 in
/-- REBATE -/
theorem c_X11_rebate (l : Launch) (D : va_G) (A : Nat → Prop) (P : SwP) (q : Nat → Nat) (cI : Nat) (F : Nat → Nat → Int32) (B G : Nat → Int32) (dk : List Nat) (thr : Int32) (x : Int32) (hI : Inv P (F, B, G, dk)) : Ct l yX11_rebate (.code yX11_rebate cX11_rebate 2 (some .int)) ({ frames := 6, cells := 0, slots := 0, locals := 160 }) A [.ref (q 0), .int x] (Mz D A q cI (pn P) F B G dk thr) (.inl (some (.int (oRebate (pk P) (pn P) x (F, B, G, dk)).2.1))) (Mz D A q cI (pn P) (oRebate (pk P) (pn P) x (F, B, G, dk)).2.2.1 (oRebate (pk P) (pn P) x (F, B, G, dk)).2.2.2.1 (oRebate (pk P) (pn P) x (F, B, G, dk)).2.2.2.2.1 (oRebate (pk P) (pn P) x (F, B, G, dk)).2.2.2.2.2 0) := by
  refine ct_mk (by decide) (Nat.le_of_ble_eq_true rfl) (fun p e s m below meth c ls C hr hlocks hnm htab hP hl => ?_)
  obtain ⟨r, dv, hro, hw⟩ := hP
  have hS : va_S A s.heap s.heap [] := va_S.rf
  have hl : lv_has ls 2 [(0, .ref (q 0)), (1, .int x)] := hl
  have hO : Ok P F dk := hI.1
  cases hv : vAt (pn P) x with
  | none =>
    refine lv_aload_n C.1 C.2.1 dX11_rebate_0 rfl (lv_at hl 0 rfl) ?_
    refine lv_iconst (v := 0) C.1 C.2.1 dX11_rebate_1 (by decide) ?_
    refine mp_thr C hw hS tb_708 dX11_rebate_2 (fun H locs hw hS => ?_)
    refine lv_aload_n C.1 C.2.1 dX11_rebate_5 rfl (lv_at hl 0 rfl) ?_
    refine lv_iload_n C.1 C.2.1 dX11_rebate_6 rfl (lv_at hl 1 rfl) ?_
    have hM := c_X11_isVehicle l D A q cI (pn P) F B G (nI dk.length) r 0 dv hI.1.1 x
    rw [hv] at hM
    rw [show b2i (none : Option Nat).isSome = 0 from rfl] at hM
    refine ct_ret (ct_V0 C hM Mp_bl (Or.inl rfl) tb_781 tb_3 ⟨Nat.le_of_ble_eq_true rfl, Nat.le_of_ble_eq_true rfl⟩ tb_778 ⟨by decide, by decide⟩ tbp_3 tb_780 (m_recv hw) (fun U hU hW => m_post hw hU hW) (sig_code (C.2.2.2.2 _ tb_781)) (by show _ = some 1; decide +kernel) hl.1 rfl (Nat.le_of_ble_eq_true rfl) dX11_rebate_7 ⟨Nat.le_of_ble_eq_true rfl, Nat.le_of_ble_eq_true rfl⟩) hS (fun _ h => h) (fun t H locs ht hvm hw _ _ hS => ?_)
    have hw := m_back hw ht hvm
    refine lv_if_eq (tgt := 21) C.1 C.2.1 dX11_rebate_10 (by decide) (fun _ => ?_) (fun h9 => absurd (by decide) h9)
    refine lv_bipush (v := -101) C.1 C.2.1 dX11_rebate_21 (by decide) ?_
    rw [show (oRebate (pk P) (pn P) x (F, B, G, dk)) = _ from (onV_n hv)]
    exact ct_i C hr hlocks rfl (fun t ht hW => mz_mk hro hw ht hW) hS (Nat.le_of_ble_eq_true rfl) (Nat.le_of_ble_eq_true rfl) dX11_rebate_23
  | some j =>
    have hj : j < pn P := vAt_lt hv
    have hxj := vAt_x hv
    subst hxj
    have hj24 : j < 24 := Nat.lt_of_lt_of_le hj hO.1
    have hkj : pk P j < 9 := hO.2.1 j hj
    have hF := hO.2.2.1 j hj
    refine lv_aload_n C.1 C.2.1 dX11_rebate_0 rfl (lv_at hl 0 rfl) ?_
    refine lv_iconst (v := 0) C.1 C.2.1 dX11_rebate_1 (by decide) ?_
    refine mp_thr C hw hS tb_708 dX11_rebate_2 (fun H locs hw hS => ?_)
    refine lv_aload_n C.1 C.2.1 dX11_rebate_5 rfl (lv_at hl 0 rfl) ?_
    refine lv_iload_n C.1 C.2.1 dX11_rebate_6 rfl (lv_at hl 1 rfl) ?_
    have hM := c_X11_isVehicle l D A q cI (pn P) F B G (nI dk.length) r 0 dv hI.1.1 (nI j)
    rw [hv] at hM
    rw [show b2i (some j : Option Nat).isSome = 1 from rfl] at hM
    refine ct_ret (ct_V0 C hM Mp_bl (Or.inl rfl) tb_781 tb_3 ⟨Nat.le_of_ble_eq_true rfl, Nat.le_of_ble_eq_true rfl⟩ tb_778 ⟨by decide, by decide⟩ tbp_3 tb_780 (m_recv hw) (fun U hU hW => m_post hw hU hW) (sig_code (C.2.2.2.2 _ tb_781)) (by show _ = some 1; decide +kernel) hl.1 rfl (Nat.le_of_ble_eq_true rfl) dX11_rebate_7 ⟨Nat.le_of_ble_eq_true rfl, Nat.le_of_ble_eq_true rfl⟩) hS (fun _ h => h) (fun t H locs ht hvm hw _ _ hS => ?_)
    have hw := m_back hw ht hvm
    refine lv_if_eq (tgt := 21) C.1 C.2.1 dX11_rebate_10 (by decide) (fun h9 => absurd h9 (by decide)) (fun _ => ?_)
    refine lv_aload_n C.1 C.2.1 dX11_rebate_13 rfl (lv_at hl 0 rfl) ?_
    refine lv_iload_n C.1 C.2.1 dX11_rebate_14 rfl (lv_at hl 1 rfl) ?_
    refine ct_ret (ct_V0 C (c_X11_rebateOf l D A q _ _ _ _ _ _ _ _ _ j (pk P j) hj24 hkj hF (hI.2.2.2.2.2.2.1 j hj)) Mp_bl (Or.inl rfl) tb_840 tb_3 ⟨Nat.le_of_ble_eq_true rfl, Nat.le_of_ble_eq_true rfl⟩ tb_837 ⟨by decide, by decide⟩ tbp_12 tb_839 (m_recv hw) (fun U hU hW => m_post hw hU hW) (sig_code (C.2.2.2.2 _ tb_840)) (by show _ = some 1; decide +kernel) hl.1 rfl (Nat.le_of_ble_eq_true rfl) dX11_rebate_15 ⟨Nat.le_of_ble_eq_true rfl, Nat.le_of_ble_eq_true rfl⟩) hS (fun _ h => h) (fun t H locs ht hvm hw _ _ hS => ?_)
    have hw := m_back hw ht hvm
    refine lv_goto (tgt := 23) C.1 C.2.1 dX11_rebate_18 (by decide) ?_
    rw [show (oRebate (pk P) (pn P) (nI j) (F, B, G, dk)) = _ from (onV_s hv)]
    exact ct_i C hr hlocks rfl (fun t ht hW => mz_mk hro hw ht hW) hS (Nat.le_of_ble_eq_true rfl) (Nat.le_of_ble_eq_true rfl) dX11_rebate_23
set_option maxHeartbeats 400000 in
set_option maxRecDepth 100000 in
/-- FIT -/
theorem c_X11_fits (l : Launch) (D : va_G) (A : Nat → Prop) (P : SwP) (q : Nat → Nat) (cI : Nat) (F : Nat → Nat → Int32) (B G : Nat → Int32) (dk : List Nat) (thr : Int32) (x : Int32) (hI : Inv P (F, B, G, dk)) : Ct l yX11_fits (.code yX11_fits cX11_fits 2 (some .int)) ({ frames := 6, cells := 0, slots := 0, locals := 160 }) A [.ref (q 0), .int x] (Mz D A q cI (pn P) F B G dk thr) (.inl (some (.int (oFits (pk P) (pn P) x (F, B, G, dk)).2.1))) (Mz D A q cI (pn P) (oFits (pk P) (pn P) x (F, B, G, dk)).2.2.1 (oFits (pk P) (pn P) x (F, B, G, dk)).2.2.2.1 (oFits (pk P) (pn P) x (F, B, G, dk)).2.2.2.2.1 (oFits (pk P) (pn P) x (F, B, G, dk)).2.2.2.2.2 0) := by
  refine ct_mk (by decide) (Nat.le_of_ble_eq_true rfl) (fun p e s m below meth c ls C hr hlocks hnm htab hP hl => ?_)
  obtain ⟨r, dv, hro, hw⟩ := hP
  have hS : va_S A s.heap s.heap [] := va_S.rf
  have hl : lv_has ls 2 [(0, .ref (q 0)), (1, .int x)] := hl
  have hO : Ok P F dk := hI.1
  cases hv : vAt (pn P) x with
  | none =>
    refine lv_aload_n C.1 C.2.1 dX11_fits_0 rfl (lv_at hl 0 rfl) ?_
    refine lv_iconst (v := 0) C.1 C.2.1 dX11_fits_1 (by decide) ?_
    refine mp_thr C hw hS tb_708 dX11_fits_2 (fun H locs hw hS => ?_)
    refine lv_aload_n C.1 C.2.1 dX11_fits_5 rfl (lv_at hl 0 rfl) ?_
    refine lv_iload_n C.1 C.2.1 dX11_fits_6 rfl (lv_at hl 1 rfl) ?_
    have hM := c_X11_isVehicle l D A q cI (pn P) F B G (nI dk.length) r 0 dv hI.1.1 x
    rw [hv] at hM
    rw [show b2i (none : Option Nat).isSome = 0 from rfl] at hM
    refine ct_ret (ct_V0 C hM Mp_bl (Or.inl rfl) tb_781 tb_3 ⟨Nat.le_of_ble_eq_true rfl, Nat.le_of_ble_eq_true rfl⟩ tb_778 ⟨by decide, by decide⟩ tbp_3 tb_780 (m_recv hw) (fun U hU hW => m_post hw hU hW) (sig_code (C.2.2.2.2 _ tb_781)) (by show _ = some 1; decide +kernel) hl.1 rfl (Nat.le_of_ble_eq_true rfl) dX11_fits_7 ⟨Nat.le_of_ble_eq_true rfl, Nat.le_of_ble_eq_true rfl⟩) hS (fun _ h => h) (fun t H locs ht hvm hw _ _ hS => ?_)
    have hw := m_back hw ht hvm
    refine lv_if_ne (tgt := 18) C.1 C.2.1 dX11_fits_10 (by decide) (fun h9 => absurd (by decide) h9) (fun _ => ?_)
    refine lv_bipush (v := -101) C.1 C.2.1 dX11_fits_13 (by decide) ?_
    refine lv_goto (tgt := 31) C.1 C.2.1 dX11_fits_15 (by decide) ?_
    rw [show (oFits (pk P) (pn P) x (F, B, G, dk)) = _ from (onV_n hv)]
    exact ct_i C hr hlocks rfl (fun t ht hW => mz_mk hro hw ht hW) hS (Nat.le_of_ble_eq_true rfl) (Nat.le_of_ble_eq_true rfl) dX11_fits_31
  | some j =>
    have hj : j < pn P := vAt_lt hv
    have hxj := vAt_x hv
    subst hxj
    have hj24 : j < 24 := Nat.lt_of_lt_of_le hj hO.1
    have hkj : pk P j < 9 := hO.2.1 j hj
    have hF := hO.2.2.1 j hj
    refine lv_aload_n C.1 C.2.1 dX11_fits_0 rfl (lv_at hl 0 rfl) ?_
    refine lv_iconst (v := 0) C.1 C.2.1 dX11_fits_1 (by decide) ?_
    refine mp_thr C hw hS tb_708 dX11_fits_2 (fun H locs hw hS => ?_)
    refine lv_aload_n C.1 C.2.1 dX11_fits_5 rfl (lv_at hl 0 rfl) ?_
    refine lv_iload_n C.1 C.2.1 dX11_fits_6 rfl (lv_at hl 1 rfl) ?_
    have hM := c_X11_isVehicle l D A q cI (pn P) F B G (nI dk.length) r 0 dv hI.1.1 (nI j)
    rw [hv] at hM
    rw [show b2i (some j : Option Nat).isSome = 1 from rfl] at hM
    refine ct_ret (ct_V0 C hM Mp_bl (Or.inl rfl) tb_781 tb_3 ⟨Nat.le_of_ble_eq_true rfl, Nat.le_of_ble_eq_true rfl⟩ tb_778 ⟨by decide, by decide⟩ tbp_3 tb_780 (m_recv hw) (fun U hU hW => m_post hw hU hW) (sig_code (C.2.2.2.2 _ tb_781)) (by show _ = some 1; decide +kernel) hl.1 rfl (Nat.le_of_ble_eq_true rfl) dX11_fits_7 ⟨Nat.le_of_ble_eq_true rfl, Nat.le_of_ble_eq_true rfl⟩) hS (fun _ h => h) (fun t H locs ht hvm hw _ _ hS => ?_)
    have hw := m_back hw ht hvm
    refine lv_if_ne (tgt := 18) C.1 C.2.1 dX11_fits_10 (by decide) (fun _ => ?_) (fun h9 => absurd h9 (by decide))
    refine lv_aload_n C.1 C.2.1 dX11_fits_18 rfl (lv_at hl 0 rfl) ?_
    refine lv_iload_n C.1 C.2.1 dX11_fits_19 rfl (lv_at hl 1 rfl) ?_
    refine ct_ret (ct_V0 C (c_X11_isFit l D A P q cI F _ G dk r 0 dv hO hro j hj) Mp_bl (Or.inl rfl) tb_808 tb_3 ⟨Nat.le_of_ble_eq_true rfl, Nat.le_of_ble_eq_true rfl⟩ tb_805 ⟨by decide, by decide⟩ tbp_7 tb_807 (m_recv hw) (fun U hU hW => m_post hw hU hW) (sig_code (C.2.2.2.2 _ tb_808)) (by show _ = some 1; decide +kernel) hl.1 rfl (Nat.le_of_ble_eq_true rfl) dX11_fits_20 ⟨Nat.le_of_ble_eq_true rfl, Nat.le_of_ble_eq_true rfl⟩) hS (fun _ h => h) (fun t H locs ht hvm hw _ _ hS => ?_)
    have hw := m_back hw ht hvm
    refine lv_if_eq (tgt := 30) C.1 C.2.1 dX11_fits_23 (by decide) (fun h1 => ?_) (fun h1 => ?_)
    · refine lv_iconst (v := 0) C.1 C.2.1 dX11_fits_30 (by decide) ?_
      rw [show (oFits (pk P) (pn P) (nI j) (F, B, G, dk)) = _ from onV_s hv]
      exact ct_i C hr hlocks (by rw [show fR (pk P) F G dk j = _ from b2i_0 h1]; rfl) (fun t ht hW => mz_mk hro hw ht hW) hS (Nat.le_of_ble_eq_true rfl) (Nat.le_of_ble_eq_true rfl) dX11_fits_31
    · refine lv_iconst (v := 1) C.1 C.2.1 dX11_fits_26 (by decide) ?_
      refine lv_goto (tgt := 31) C.1 C.2.1 dX11_fits_27 (by decide) ?_
      rw [show (oFits (pk P) (pn P) (nI j) (F, B, G, dk)) = _ from onV_s hv]
      exact ct_i C hr hlocks (by rw [show fR (pk P) F G dk j = _ from b2i_1 h1]; rfl) (fun t ht hW => mz_mk hro hw ht hW) hS (Nat.le_of_ble_eq_true rfl) (Nat.le_of_ble_eq_true rfl) dX11_fits_31
set_option maxHeartbeats 400000 in
set_option maxRecDepth 100000 in
/-- TOLL -/
theorem c_X11_toll (l : Launch) (D : va_G) (A : Nat → Prop) (P : SwP) (q : Nat → Nat) (cI : Nat) (F : Nat → Nat → Int32) (B G : Nat → Int32) (dk : List Nat) (thr : Int32) (x : Int32) (h : Int32) (hI : Inv P (F, B, G, dk)) : Ct l yX11_toll (.code yX11_toll cX11_toll 4 (some .int)) ({ frames := 6, cells := 0, slots := 0, locals := 160 }) A [.ref (q 0), .int x, .int h] (Mz D A q cI (pn P) F B G dk thr) (.inl (some (.int (oToll (pk P) (pn P) x h (F, B, G, dk)).2.1))) (Mz D A q cI (pn P) (oToll (pk P) (pn P) x h (F, B, G, dk)).2.2.1 (oToll (pk P) (pn P) x h (F, B, G, dk)).2.2.2.1 (oToll (pk P) (pn P) x h (F, B, G, dk)).2.2.2.2.1 (oToll (pk P) (pn P) x h (F, B, G, dk)).2.2.2.2.2 (if (oToll (pk P) (pn P) x h (F, B, G, dk)).1 = 0 then 0 else 1)) := by
  refine ct_mk (by decide) (Nat.le_of_ble_eq_true rfl) (fun p e s m below meth c ls C hr hlocks hnm htab hP hl => ?_)
  obtain ⟨r, dv, hro, hw⟩ := hP
  have hS : va_S A s.heap s.heap [] := va_S.rf
  have hl : lv_has ls 4 [(0, .ref (q 0)), (1, .int x), (2, .int h)] := hl
  have hO : Ok P F dk := hI.1
  cases hv : vAt (pn P) x with
  | none =>
    refine lv_aload_n C.1 C.2.1 dX11_toll_0 rfl (lv_at hl 0 rfl) ?_
    refine lv_iconst (v := 0) C.1 C.2.1 dX11_toll_1 (by decide) ?_
    refine mp_thr C hw hS tb_708 dX11_toll_2 (fun H locs hw hS => ?_)
    refine lv_aload_n C.1 C.2.1 dX11_toll_5 rfl (lv_at hl 0 rfl) ?_
    refine lv_iload_n C.1 C.2.1 dX11_toll_6 rfl (lv_at hl 1 rfl) ?_
    have hM := c_X11_isVehicle l D A q cI (pn P) F B G (nI dk.length) r 0 dv hI.1.1 x
    rw [hv] at hM
    rw [show b2i (none : Option Nat).isSome = 0 from rfl] at hM
    refine ct_ret (ct_V0 C hM Mp_bl (Or.inl rfl) tb_781 tb_3 ⟨Nat.le_of_ble_eq_true rfl, Nat.le_of_ble_eq_true rfl⟩ tb_778 ⟨by decide, by decide⟩ tbp_3 tb_780 (m_recv hw) (fun U hU hW => m_post hw hU hW) (sig_code (C.2.2.2.2 _ tb_781)) (by show _ = some 1; decide +kernel) hl.1 rfl (Nat.le_of_ble_eq_true rfl) dX11_toll_7 ⟨Nat.le_of_ble_eq_true rfl, Nat.le_of_ble_eq_true rfl⟩) hS (fun _ h => h) (fun t H locs ht hvm hw _ _ hS => ?_)
    have hw := m_back hw ht hvm
    refine lv_if_ne (tgt := 16) C.1 C.2.1 dX11_toll_10 (by decide) (fun h9 => absurd (by decide) h9) (fun _ => ?_)
    refine lv_bipush (v := -101) C.1 C.2.1 dX11_toll_13 (by decide) ?_
    rw [show (oToll (pk P) (pn P) x h (F, B, G, dk)) = _ from (onV_n hv)]
    exact ct_i C hr hlocks rfl (fun t ht hW => mz_mk hro hw ht hW) hS (Nat.le_of_ble_eq_true rfl) (Nat.le_of_ble_eq_true rfl) dX11_toll_15
  | some j =>
    have hj : j < pn P := vAt_lt hv
    have hxj := vAt_x hv
    subst hxj
    have hj24 : j < 24 := Nat.lt_of_lt_of_le hj hO.1
    have hkj : pk P j < 9 := hO.2.1 j hj
    have hF := hO.2.2.1 j hj
    refine lv_aload_n C.1 C.2.1 dX11_toll_0 rfl (lv_at hl 0 rfl) ?_
    refine lv_iconst (v := 0) C.1 C.2.1 dX11_toll_1 (by decide) ?_
    refine mp_thr C hw hS tb_708 dX11_toll_2 (fun H locs hw hS => ?_)
    refine lv_aload_n C.1 C.2.1 dX11_toll_5 rfl (lv_at hl 0 rfl) ?_
    refine lv_iload_n C.1 C.2.1 dX11_toll_6 rfl (lv_at hl 1 rfl) ?_
    have hM := c_X11_isVehicle l D A q cI (pn P) F B G (nI dk.length) r 0 dv hI.1.1 (nI j)
    rw [hv] at hM
    rw [show b2i (some j : Option Nat).isSome = 1 from rfl] at hM
    refine ct_ret (ct_V0 C hM Mp_bl (Or.inl rfl) tb_781 tb_3 ⟨Nat.le_of_ble_eq_true rfl, Nat.le_of_ble_eq_true rfl⟩ tb_778 ⟨by decide, by decide⟩ tbp_3 tb_780 (m_recv hw) (fun U hU hW => m_post hw hU hW) (sig_code (C.2.2.2.2 _ tb_781)) (by show _ = some 1; decide +kernel) hl.1 rfl (Nat.le_of_ble_eq_true rfl) dX11_toll_7 ⟨Nat.le_of_ble_eq_true rfl, Nat.le_of_ble_eq_true rfl⟩) hS (fun _ h => h) (fun t H locs ht hvm hw _ _ hS => ?_)
    have hw := m_back hw ht hvm
    refine lv_if_ne (tgt := 16) C.1 C.2.1 dX11_toll_10 (by decide) (fun _ => ?_) (fun h9 => absurd h9 (by decide))
    refine lv_iload_n C.1 C.2.1 dX11_toll_16 rfl (lv_at hl 2 rfl) ?_
    refine ct_ret (ct_S C (c_X11_isHour l (h)) Tr_bl (Or.inl rfl) tb_792 tb_3 ⟨Nat.le_of_ble_eq_true rfl, Nat.le_of_ble_eq_true rfl⟩ tb_790 ⟨by decide, by decide⟩ tb_791 (fun _ _ _ => trivial) (by show _ = some 1; decide +kernel) hl.1 rfl (Nat.le_of_ble_eq_true rfl) dX11_toll_17 ⟨Nat.le_of_ble_eq_true rfl, Nat.le_of_ble_eq_true rfl⟩) hS (fun _ h => False.elim h) (fun t H locs ht hvm _ _ hk hS => ?_)
    have hw := m_kept hw hk
    refine lv_if_ne (tgt := 26) C.1 C.2.1 dX11_toll_20 (by decide) (fun h1 => ?_) (fun h1 => ?_)
    · refine lv_aload_n C.1 C.2.1 dX11_toll_26 rfl (lv_at hl 0 rfl) ?_
      refine lv_iload_n C.1 C.2.1 dX11_toll_27 rfl (lv_at hl 1 rfl) ?_
      refine lv_iload_n C.1 C.2.1 dX11_toll_28 rfl (lv_at hl 2 rfl) ?_
      refine ct_ret (ct_V0 C (c_X11_tollOf l D A q _ _ _ _ _ _ _ _ _ j (pk P j) hj24 hkj hF h) Mp_bl (Or.inl rfl) tb_796 tb_3 ⟨Nat.le_of_ble_eq_true rfl, Nat.le_of_ble_eq_true rfl⟩ tb_793 ⟨by decide, by decide⟩ tbp_5 tb_795 (m_recv hw) (fun U hU hW => m_post hw hU hW) (sig_code (C.2.2.2.2 _ tb_796)) (by show _ = some 2; decide +kernel) hl.1 rfl (Nat.le_of_ble_eq_true rfl) dX11_toll_29 ⟨Nat.le_of_ble_eq_true rfl, Nat.le_of_ble_eq_true rfl⟩) hS (fun _ h => h) (fun t H locs ht hvm hw _ _ hS => ?_)
      have hw := m_back hw ht hvm
      refine lv_istore_n (lv' := [(3, .int (tR (pk P j) F j h)), (0, .ref (q 0)), (1, .int (nI j)), (2, .int (h))]) C.1 C.2.1 dX11_toll_32 rfl hl (by decide) rfl (fun ls hl => ?_)
      refine lv_aload_n C.1 C.2.1 dX11_toll_33 rfl (lv_at hl 1 rfl) ?_
      refine lv_aload_n C.1 C.2.1 dX11_toll_34 rfl (lv_at hl 1 rfl) ?_
      refine mg_get C hw 17 (by decide) tb_725 rfl dX11_toll_35 ?_
      refine lv_if_eq (tgt := 45) C.1 C.2.1 dX11_toll_38 (by decide) (fun h2 => ?_) (fun h2 => ?_)
      · refine lv_iconst (v := 0) C.1 C.2.1 dX11_toll_45 (by decide) ?_
        refine mp_thr C hw hS tb_708 dX11_toll_46 (fun H locs hw hS => ?_)
        refine lv_iload_n C.1 C.2.1 dX11_toll_49 rfl (lv_at hl 0 rfl) ?_
        have hx := b2i_0 h2
        rw [show tG (pk P j) F j G = G from if_neg (by rw [hx]; decide)] at hw
        rw [show (oToll (pk P) (pn P) (nI j) h (F, B, G, dk)) = _ from ((onV_s hv).trans ((ifn_n h1).trans (if_neg (by rw [hx]; decide))))]
        exact ct_i C hr hlocks rfl (fun t ht hW => mz_mk hro hw ht hW) hS (Nat.le_of_ble_eq_true rfl) (Nat.le_of_ble_eq_true rfl) dX11_toll_50
      · refine lv_iconst (v := 1) C.1 C.2.1 dX11_toll_41 (by decide) ?_
        refine lv_goto (tgt := 46) C.1 C.2.1 dX11_toll_42 (by decide) ?_
        refine mp_thr C hw hS tb_708 dX11_toll_46 (fun H locs hw hS => ?_)
        refine lv_iload_n C.1 C.2.1 dX11_toll_49 rfl (lv_at hl 0 rfl) ?_
        have hx := b2i_1 h2
        have h8 := of_decide_eq_true hx
        rw [show tG (pk P j) F j G = upd G 6 (G 6 + 1) from if_pos hx] at hw
        rw [show (oToll (pk P) (pn P) (nI j) h (F, B, G, dk)) = _ from ((onV_s hv).trans ((ifn_n h1).trans (if_pos hx)))]
        exact ct_i C hr hlocks (by rw [h8.1]; exact congrArg (fun v => Sum.inl (some (Value.int v))) ((show (0 : Int32) = (if F j 5 = 0 then 0 else 100 / F j 5) from (if_pos h8.2).symm))) (fun t ht hW => mz_mk hro hw ht hW) hS (Nat.le_of_ble_eq_true rfl) (Nat.le_of_ble_eq_true rfl) dX11_toll_50
    · refine lv_bipush (v := -102) C.1 C.2.1 dX11_toll_23 (by decide) ?_
      rw [show (oToll (pk P) (pn P) (nI j) h (F, B, G, dk)) = _ from ((onV_s hv).trans (ifn_p h1))]
      exact ct_i C hr hlocks rfl (fun t ht hW => mz_mk hro hw ht hW) hS (Nat.le_of_ble_eq_true rfl) (Nat.le_of_ble_eq_true rfl) dX11_toll_25
set_option maxHeartbeats 400000 in
set_option maxRecDepth 100000 in
/-- BILL -/
theorem c_X11_bill (l : Launch) (D : va_G) (A : Nat → Prop) (P : SwP) (q : Nat → Nat) (cI : Nat) (F : Nat → Nat → Int32) (B G : Nat → Int32) (dk : List Nat) (thr : Int32) (x : Int32) (h : Int32) (hI : Inv P (F, B, G, dk)) : Ct l yX11_bill (.code yX11_bill cX11_bill 3 (some .int)) ({ frames := 6, cells := 0, slots := 0, locals := 160 }) A [.ref (q 0), .int x, .int h] (Mz D A q cI (pn P) F B G dk thr) (.inl (some (.int (oBill (pk P) (pn P) x h (F, B, G, dk)).2.1))) (Mz D A q cI (pn P) (oBill (pk P) (pn P) x h (F, B, G, dk)).2.2.1 (oBill (pk P) (pn P) x h (F, B, G, dk)).2.2.2.1 (oBill (pk P) (pn P) x h (F, B, G, dk)).2.2.2.2.1 (oBill (pk P) (pn P) x h (F, B, G, dk)).2.2.2.2.2 0) := by
  refine ct_mk (by decide) (Nat.le_of_ble_eq_true rfl) (fun p e s m below meth c ls C hr hlocks hnm htab hP hl => ?_)
  obtain ⟨r, dv, hro, hw⟩ := hP
  have hS : va_S A s.heap s.heap [] := va_S.rf
  have hl : lv_has ls 3 [(0, .ref (q 0)), (1, .int x), (2, .int h)] := hl
  have hO : Ok P F dk := hI.1
  cases hv : vAt (pn P) x with
  | none =>
    refine lv_aload_n C.1 C.2.1 dX11_bill_0 rfl (lv_at hl 0 rfl) ?_
    refine lv_iconst (v := 0) C.1 C.2.1 dX11_bill_1 (by decide) ?_
    refine mp_thr C hw hS tb_708 dX11_bill_2 (fun H locs hw hS => ?_)
    refine lv_aload_n C.1 C.2.1 dX11_bill_5 rfl (lv_at hl 0 rfl) ?_
    refine lv_iload_n C.1 C.2.1 dX11_bill_6 rfl (lv_at hl 1 rfl) ?_
    have hM := c_X11_isVehicle l D A q cI (pn P) F B G (nI dk.length) r 0 dv hI.1.1 x
    rw [hv] at hM
    rw [show b2i (none : Option Nat).isSome = 0 from rfl] at hM
    refine ct_ret (ct_V0 C hM Mp_bl (Or.inl rfl) tb_781 tb_3 ⟨Nat.le_of_ble_eq_true rfl, Nat.le_of_ble_eq_true rfl⟩ tb_778 ⟨by decide, by decide⟩ tbp_3 tb_780 (m_recv hw) (fun U hU hW => m_post hw hU hW) (sig_code (C.2.2.2.2 _ tb_781)) (by show _ = some 1; decide +kernel) hl.1 rfl (Nat.le_of_ble_eq_true rfl) dX11_bill_7 ⟨Nat.le_of_ble_eq_true rfl, Nat.le_of_ble_eq_true rfl⟩) hS (fun _ h => h) (fun t H locs ht hvm hw _ _ hS => ?_)
    have hw := m_back hw ht hvm
    refine lv_if_ne (tgt := 16) C.1 C.2.1 dX11_bill_10 (by decide) (fun h9 => absurd (by decide) h9) (fun _ => ?_)
    refine lv_bipush (v := -101) C.1 C.2.1 dX11_bill_13 (by decide) ?_
    rw [show (oBill (pk P) (pn P) x h (F, B, G, dk)) = _ from (onV_n hv)]
    exact ct_i C hr hlocks rfl (fun t ht hW => mz_mk hro hw ht hW) hS (Nat.le_of_ble_eq_true rfl) (Nat.le_of_ble_eq_true rfl) dX11_bill_15
  | some j =>
    have hj : j < pn P := vAt_lt hv
    have hxj := vAt_x hv
    subst hxj
    have hj24 : j < 24 := Nat.lt_of_lt_of_le hj hO.1
    have hkj : pk P j < 9 := hO.2.1 j hj
    have hF := hO.2.2.1 j hj
    refine lv_aload_n C.1 C.2.1 dX11_bill_0 rfl (lv_at hl 0 rfl) ?_
    refine lv_iconst (v := 0) C.1 C.2.1 dX11_bill_1 (by decide) ?_
    refine mp_thr C hw hS tb_708 dX11_bill_2 (fun H locs hw hS => ?_)
    refine lv_aload_n C.1 C.2.1 dX11_bill_5 rfl (lv_at hl 0 rfl) ?_
    refine lv_iload_n C.1 C.2.1 dX11_bill_6 rfl (lv_at hl 1 rfl) ?_
    have hM := c_X11_isVehicle l D A q cI (pn P) F B G (nI dk.length) r 0 dv hI.1.1 (nI j)
    rw [hv] at hM
    rw [show b2i (some j : Option Nat).isSome = 1 from rfl] at hM
    refine ct_ret (ct_V0 C hM Mp_bl (Or.inl rfl) tb_781 tb_3 ⟨Nat.le_of_ble_eq_true rfl, Nat.le_of_ble_eq_true rfl⟩ tb_778 ⟨by decide, by decide⟩ tbp_3 tb_780 (m_recv hw) (fun U hU hW => m_post hw hU hW) (sig_code (C.2.2.2.2 _ tb_781)) (by show _ = some 1; decide +kernel) hl.1 rfl (Nat.le_of_ble_eq_true rfl) dX11_bill_7 ⟨Nat.le_of_ble_eq_true rfl, Nat.le_of_ble_eq_true rfl⟩) hS (fun _ h => h) (fun t H locs ht hvm hw _ _ hS => ?_)
    have hw := m_back hw ht hvm
    refine lv_if_ne (tgt := 16) C.1 C.2.1 dX11_bill_10 (by decide) (fun _ => ?_) (fun h9 => absurd h9 (by decide))
    refine lv_iload_n C.1 C.2.1 dX11_bill_16 rfl (lv_at hl 2 rfl) ?_
    refine ct_ret (ct_S C (c_X11_isHour l (h)) Tr_bl (Or.inl rfl) tb_792 tb_3 ⟨Nat.le_of_ble_eq_true rfl, Nat.le_of_ble_eq_true rfl⟩ tb_790 ⟨by decide, by decide⟩ tb_791 (fun _ _ _ => trivial) (by show _ = some 1; decide +kernel) hl.1 rfl (Nat.le_of_ble_eq_true rfl) dX11_bill_17 ⟨Nat.le_of_ble_eq_true rfl, Nat.le_of_ble_eq_true rfl⟩) hS (fun _ h => False.elim h) (fun t H locs ht hvm _ _ hk hS => ?_)
    have hw := m_kept hw hk
    refine lv_if_ne (tgt := 26) C.1 C.2.1 dX11_bill_20 (by decide) (fun h1 => ?_) (fun h1 => ?_)
    · refine lv_aload_n C.1 C.2.1 dX11_bill_26 rfl (lv_at hl 0 rfl) ?_
      refine lv_iload_n C.1 C.2.1 dX11_bill_27 rfl (lv_at hl 1 rfl) ?_
      refine ct_ret (ct_V0 C (c_X11_hasAccount l D A q _ _ _ _ _ _ _ _ _ j (pk P j) hj24 hkj hF) Mp_bl (Or.inl rfl) tb_848 tb_3 ⟨Nat.le_of_ble_eq_true rfl, Nat.le_of_ble_eq_true rfl⟩ tb_845 ⟨by decide, by decide⟩ tbp_13 tb_847 (m_recv hw) (fun U hU hW => m_post hw hU hW) (sig_code (C.2.2.2.2 _ tb_848)) (by show _ = some 1; decide +kernel) hl.1 rfl (Nat.le_of_ble_eq_true rfl) dX11_bill_28 ⟨Nat.le_of_ble_eq_true rfl, Nat.le_of_ble_eq_true rfl⟩) hS (fun _ h => h) (fun t H locs ht hvm hw _ _ hS => ?_)
      have hw := m_back hw ht hvm
      refine lv_if_eq (tgt := 43) C.1 C.2.1 dX11_bill_31 (by decide) (fun h2 => ?_) (fun h2 => ?_)
      · refine lv_bipush (v := -103) C.1 C.2.1 dX11_bill_43 (by decide) ?_
        rw [show (oBill (pk P) (pn P) (nI j) h (F, B, G, dk)) = _ from ((onV_s hv).trans ((ifn_n h1).trans (ifo_n h2)))]
        exact ct_i C hr hlocks rfl (fun t ht hW => mz_mk hro hw ht hW) hS (Nat.le_of_ble_eq_true rfl) (Nat.le_of_ble_eq_true rfl) dX11_bill_45
      · refine lv_aload_n C.1 C.2.1 dX11_bill_34 rfl (lv_at hl 0 rfl) ?_
        refine lv_iload_n C.1 C.2.1 dX11_bill_35 rfl (lv_at hl 1 rfl) ?_
        refine lv_iload_n C.1 C.2.1 dX11_bill_36 rfl (lv_at hl 2 rfl) ?_
        refine ct_ret (ct_V0 C (c_X11_billOf l D A q _ _ _ _ _ _ _ _ _ j (pk P j) hj24 hkj hF h (hI.2.2.2.2.2.2.1 j hj)) Mp_bl (Or.inl rfl) tb_852 tb_3 ⟨Nat.le_of_ble_eq_true rfl, Nat.le_of_ble_eq_true rfl⟩ tb_849 ⟨by decide, by decide⟩ tbp_14 tb_851 (m_recv hw) (fun U hU hW => m_post hw hU hW) (sig_code (C.2.2.2.2 _ tb_852)) (by show _ = some 2; decide +kernel) hl.1 rfl (Nat.le_of_ble_eq_true rfl) dX11_bill_37 ⟨Nat.le_of_ble_eq_true rfl, Nat.le_of_ble_eq_true rfl⟩) hS (fun _ h => h) (fun t H locs ht hvm hw _ _ hS => ?_)
        have hw := m_back hw ht hvm
        refine lv_goto (tgt := 45) C.1 C.2.1 dX11_bill_40 (by decide) ?_
        have ha := of_decide_eq_true (b2i_1 h2)
        have hx : tX (pk P j) F j = false := decide_eq_false (fun z => by omega)
        rw [show tG (pk P j) F j G = G from if_neg (by rw [hx]; decide)] at hw
        rw [show (oBill (pk P) (pn P) (nI j) h (F, B, G, dk)) = _ from ((onV_s hv).trans ((ifn_n h1).trans (ifo_p h2)))]
        exact ct_i C hr hlocks rfl (fun t ht hW => mz_mk hro hw ht hW) hS (Nat.le_of_ble_eq_true rfl) (Nat.le_of_ble_eq_true rfl) dX11_bill_45
    · refine lv_bipush (v := -102) C.1 C.2.1 dX11_bill_23 (by decide) ?_
      rw [show (oBill (pk P) (pn P) (nI j) h (F, B, G, dk)) = _ from ((onV_s hv).trans (ifn_p h1))]
      exact ct_i C hr hlocks rfl (fun t ht hW => mz_mk hro hw ht hW) hS (Nat.le_of_ble_eq_true rfl) (Nat.le_of_ble_eq_true rfl) dX11_bill_25
set_option maxHeartbeats 400000 in
set_option maxRecDepth 100000 in
/-- MONTH -/
theorem c_X11_month (l : Launch) (D : va_G) (A : Nat → Prop) (P : SwP) (q : Nat → Nat) (cI : Nat) (F : Nat → Nat → Int32) (B G : Nat → Int32) (dk : List Nat) (thr : Int32) (x : Int32) (d : Int32) (hI : Inv P (F, B, G, dk)) : Ct l yX11_month (.code yX11_month cX11_month 3 (some .int)) ({ frames := 6, cells := 0, slots := 0, locals := 160 }) A [.ref (q 0), .int x, .int d] (Mz D A q cI (pn P) F B G dk thr) (.inl (some (.int (oMonth (pk P) (pn P) x d (F, B, G, dk)).2.1))) (Mz D A q cI (pn P) (oMonth (pk P) (pn P) x d (F, B, G, dk)).2.2.1 (oMonth (pk P) (pn P) x d (F, B, G, dk)).2.2.2.1 (oMonth (pk P) (pn P) x d (F, B, G, dk)).2.2.2.2.1 (oMonth (pk P) (pn P) x d (F, B, G, dk)).2.2.2.2.2 0) := by
  refine ct_mk (by decide) (Nat.le_of_ble_eq_true rfl) (fun p e s m below meth c ls C hr hlocks hnm htab hP hl => ?_)
  obtain ⟨r, dv, hro, hw⟩ := hP
  have hS : va_S A s.heap s.heap [] := va_S.rf
  have hl : lv_has ls 3 [(0, .ref (q 0)), (1, .int x), (2, .int d)] := hl
  have hO : Ok P F dk := hI.1
  cases hv : vAt (pn P) x with
  | none =>
    refine lv_aload_n C.1 C.2.1 dX11_month_0 rfl (lv_at hl 0 rfl) ?_
    refine lv_iconst (v := 0) C.1 C.2.1 dX11_month_1 (by decide) ?_
    refine mp_thr C hw hS tb_708 dX11_month_2 (fun H locs hw hS => ?_)
    refine lv_aload_n C.1 C.2.1 dX11_month_5 rfl (lv_at hl 0 rfl) ?_
    refine lv_iload_n C.1 C.2.1 dX11_month_6 rfl (lv_at hl 1 rfl) ?_
    have hM := c_X11_isVehicle l D A q cI (pn P) F B G (nI dk.length) r 0 dv hI.1.1 x
    rw [hv] at hM
    rw [show b2i (none : Option Nat).isSome = 0 from rfl] at hM
    refine ct_ret (ct_V0 C hM Mp_bl (Or.inl rfl) tb_781 tb_3 ⟨Nat.le_of_ble_eq_true rfl, Nat.le_of_ble_eq_true rfl⟩ tb_778 ⟨by decide, by decide⟩ tbp_3 tb_780 (m_recv hw) (fun U hU hW => m_post hw hU hW) (sig_code (C.2.2.2.2 _ tb_781)) (by show _ = some 1; decide +kernel) hl.1 rfl (Nat.le_of_ble_eq_true rfl) dX11_month_7 ⟨Nat.le_of_ble_eq_true rfl, Nat.le_of_ble_eq_true rfl⟩) hS (fun _ h => h) (fun t H locs ht hvm hw _ _ hS => ?_)
    have hw := m_back hw ht hvm
    refine lv_if_ne (tgt := 16) C.1 C.2.1 dX11_month_10 (by decide) (fun h9 => absurd (by decide) h9) (fun _ => ?_)
    refine lv_bipush (v := -101) C.1 C.2.1 dX11_month_13 (by decide) ?_
    rw [show (oMonth (pk P) (pn P) x d (F, B, G, dk)) = _ from (onV_n hv)]
    exact ct_i C hr hlocks rfl (fun t ht hW => mz_mk hro hw ht hW) hS (Nat.le_of_ble_eq_true rfl) (Nat.le_of_ble_eq_true rfl) dX11_month_15
  | some j =>
    have hj : j < pn P := vAt_lt hv
    have hxj := vAt_x hv
    subst hxj
    have hj24 : j < 24 := Nat.lt_of_lt_of_le hj hO.1
    have hkj : pk P j < 9 := hO.2.1 j hj
    have hF := hO.2.2.1 j hj
    refine lv_aload_n C.1 C.2.1 dX11_month_0 rfl (lv_at hl 0 rfl) ?_
    refine lv_iconst (v := 0) C.1 C.2.1 dX11_month_1 (by decide) ?_
    refine mp_thr C hw hS tb_708 dX11_month_2 (fun H locs hw hS => ?_)
    refine lv_aload_n C.1 C.2.1 dX11_month_5 rfl (lv_at hl 0 rfl) ?_
    refine lv_iload_n C.1 C.2.1 dX11_month_6 rfl (lv_at hl 1 rfl) ?_
    have hM := c_X11_isVehicle l D A q cI (pn P) F B G (nI dk.length) r 0 dv hI.1.1 (nI j)
    rw [hv] at hM
    rw [show b2i (some j : Option Nat).isSome = 1 from rfl] at hM
    refine ct_ret (ct_V0 C hM Mp_bl (Or.inl rfl) tb_781 tb_3 ⟨Nat.le_of_ble_eq_true rfl, Nat.le_of_ble_eq_true rfl⟩ tb_778 ⟨by decide, by decide⟩ tbp_3 tb_780 (m_recv hw) (fun U hU hW => m_post hw hU hW) (sig_code (C.2.2.2.2 _ tb_781)) (by show _ = some 1; decide +kernel) hl.1 rfl (Nat.le_of_ble_eq_true rfl) dX11_month_7 ⟨Nat.le_of_ble_eq_true rfl, Nat.le_of_ble_eq_true rfl⟩) hS (fun _ h => h) (fun t H locs ht hvm hw _ _ hS => ?_)
    have hw := m_back hw ht hvm
    refine lv_if_ne (tgt := 16) C.1 C.2.1 dX11_month_10 (by decide) (fun _ => ?_) (fun h9 => absurd h9 (by decide))
    refine lv_iload_n C.1 C.2.1 dX11_month_16 rfl (lv_at hl 2 rfl) ?_
    refine lv_iconst (v := 0) C.1 C.2.1 dX11_month_17 (by decide) ?_
    refine lv_bipush (v := 31) C.1 C.2.1 dX11_month_18 (by decide) ?_
    refine ct_ret (ct_S C (c_X11_within l (d) (0) (31)) Tr_bl (Or.inl rfl) tb_773 tb_3 ⟨Nat.le_of_ble_eq_true rfl, Nat.le_of_ble_eq_true rfl⟩ tb_771 ⟨by decide, by decide⟩ tb_772 (fun _ _ _ => trivial) (by show _ = some 3; decide +kernel) hl.1 rfl (Nat.le_of_ble_eq_true rfl) dX11_month_20 ⟨Nat.le_of_ble_eq_true rfl, Nat.le_of_ble_eq_true rfl⟩) hS (fun _ h => False.elim h) (fun t H locs ht hvm _ _ hk hS => ?_)
    have hw := m_kept hw hk
    refine lv_if_ne (tgt := 29) C.1 C.2.1 dX11_month_23 (by decide) (fun h1 => ?_) (fun h1 => ?_)
    · refine lv_aload_n C.1 C.2.1 dX11_month_29 rfl (lv_at hl 0 rfl) ?_
      refine lv_iload_n C.1 C.2.1 dX11_month_30 rfl (lv_at hl 1 rfl) ?_
      refine ct_ret (ct_V0 C (c_X11_hasAccount l D A q _ _ _ _ _ _ _ _ _ j (pk P j) hj24 hkj hF) Mp_bl (Or.inl rfl) tb_848 tb_3 ⟨Nat.le_of_ble_eq_true rfl, Nat.le_of_ble_eq_true rfl⟩ tb_845 ⟨by decide, by decide⟩ tbp_13 tb_847 (m_recv hw) (fun U hU hW => m_post hw hU hW) (sig_code (C.2.2.2.2 _ tb_848)) (by show _ = some 1; decide +kernel) hl.1 rfl (Nat.le_of_ble_eq_true rfl) dX11_month_31 ⟨Nat.le_of_ble_eq_true rfl, Nat.le_of_ble_eq_true rfl⟩) hS (fun _ h => h) (fun t H locs ht hvm hw _ _ hS => ?_)
      have hw := m_back hw ht hvm
      refine lv_if_ne (tgt := 40) C.1 C.2.1 dX11_month_34 (by decide) (fun h2 => ?_) (fun h2 => ?_)
      · refine lv_aload_n C.1 C.2.1 dX11_month_40 rfl (lv_at hl 0 rfl) ?_
        refine mg_get C hw 2 (by decide) tb_710 rfl dX11_month_41 ?_
        refine lv_iload_n C.1 C.2.1 dX11_month_44 rfl (lv_at hl 1 rfl) ?_
        refine ma_kind C hw hj24 rfl dX11_month_45 ?_
        rw [hF]
        refine lv_bipush (v := 7) C.1 C.2.1 dX11_month_46 (by decide) ?_
        refine lv_icmp_ne (tgt := 66) C.1 C.2.1 dX11_month_48 (by decide) (fun h3 => ?_) (fun h3 => ?_)
        · refine lv_bipush (v := 20) C.1 C.2.1 dX11_month_66 (by decide) ?_
          refine lv_iload_n C.1 C.2.1 dX11_month_68 rfl (lv_at hl 2 rfl) ?_
          refine lv_imul C.1 C.2.1 dX11_month_69 ?_
          refine lv_aload_n C.1 C.2.1 dX11_month_70 rfl (lv_at hl 0 rfl) ?_
          refine lv_iload_n C.1 C.2.1 dX11_month_71 rfl (lv_at hl 1 rfl) ?_
          refine lv_bipush (v := 12) C.1 C.2.1 dX11_month_72 (by decide) ?_
          refine ct_ret (ct_V0 C (c_X11_billOf l D A q _ _ _ _ _ _ _ _ _ j (pk P j) hj24 hkj hF 12 (hI.2.2.2.2.2.2.1 j hj)) Mp_bl (Or.inl rfl) tb_852 tb_3 ⟨Nat.le_of_ble_eq_true rfl, Nat.le_of_ble_eq_true rfl⟩ tb_849 ⟨by decide, by decide⟩ tbp_14 tb_851 (m_recv hw) (fun U hU hW => m_post hw hU hW) (sig_code (C.2.2.2.2 _ tb_852)) (by show _ = some 2; decide +kernel) hl.1 rfl (Nat.le_of_ble_eq_true rfl) dX11_month_74 ⟨Nat.le_of_ble_eq_true rfl, Nat.le_of_ble_eq_true rfl⟩) hS (fun _ h => h) (fun t H locs ht hvm hw _ _ hS => ?_)
          have hw := m_back hw ht hvm
          refine lv_iadd C.1 C.2.1 dX11_month_77 ?_
          have ha := of_decide_eq_true (b2i_1 h2)
          have hx : tX (pk P j) F j = false := decide_eq_false (fun z => by omega)
          rw [show tG (pk P j) F j G = G from if_neg (by rw [hx]; decide)] at hw
          rw [show (oMonth (pk P) (pn P) (nI j) d (F, B, G, dk)) = _ from ((onV_s hv).trans ((ifn_n h1).trans (ifo_p h2)))]
          have h7 : pk P j ≠ 7 := fun z => h3 (by rw [z]; rfl)
          rw [show mR (pk P j) F j d = 20 * d + bR (pk P j) F j 12 from if_neg h7, show mB (pk P j) B = bB (pk P j) 12 B from if_neg h7]
          exact ct_i C hr hlocks rfl (fun t ht hW => mz_mk hro hw ht hW) hS (Nat.le_of_ble_eq_true rfl) (Nat.le_of_ble_eq_true rfl) dX11_month_78
        · refine lv_bipush (v := 15) C.1 C.2.1 dX11_month_51 (by decide) ?_
          refine lv_iload_n C.1 C.2.1 dX11_month_53 rfl (lv_at hl 2 rfl) ?_
          refine lv_imul C.1 C.2.1 dX11_month_54 ?_
          refine lv_aload_n C.1 C.2.1 dX11_month_55 rfl (lv_at hl 0 rfl) ?_
          refine lv_iload_n C.1 C.2.1 dX11_month_56 rfl (lv_at hl 1 rfl) ?_
          refine lv_bipush (v := 23) C.1 C.2.1 dX11_month_57 (by decide) ?_
          refine ct_ret (ct_V0 C (c_X11_billOf l D A q _ _ _ _ _ _ _ _ _ j (pk P j) hj24 hkj hF 23 (hI.2.2.2.2.2.2.1 j hj)) Mp_bl (Or.inl rfl) tb_852 tb_3 ⟨Nat.le_of_ble_eq_true rfl, Nat.le_of_ble_eq_true rfl⟩ tb_849 ⟨by decide, by decide⟩ tbp_14 tb_851 (m_recv hw) (fun U hU hW => m_post hw hU hW) (sig_code (C.2.2.2.2 _ tb_852)) (by show _ = some 2; decide +kernel) hl.1 rfl (Nat.le_of_ble_eq_true rfl) dX11_month_59 ⟨Nat.le_of_ble_eq_true rfl, Nat.le_of_ble_eq_true rfl⟩) hS (fun _ h => h) (fun t H locs ht hvm hw _ _ hS => ?_)
          have hw := m_back hw ht hvm
          refine lv_iadd C.1 C.2.1 dX11_month_62 ?_
          refine lv_goto (tgt := 78) C.1 C.2.1 dX11_month_63 (by decide) ?_
          have ha := of_decide_eq_true (b2i_1 h2)
          have hx : tX (pk P j) F j = false := decide_eq_false (fun z => by omega)
          rw [show tG (pk P j) F j G = G from if_neg (by rw [hx]; decide)] at hw
          rw [show (oMonth (pk P) (pn P) (nI j) d (F, B, G, dk)) = _ from ((onV_s hv).trans ((ifn_n h1).trans (ifo_p h2)))]
          have h7 : pk P j = 7 := (nI_eq (b := 7) (by omega) (by omega)).mp h3
          rw [show mR (pk P j) F j d = 15 * d + bR (pk P j) F j 23 from if_pos h7, show mB (pk P j) B = bB (pk P j) 23 B from if_pos h7]
          exact ct_i C hr hlocks rfl (fun t ht hW => mz_mk hro hw ht hW) hS (Nat.le_of_ble_eq_true rfl) (Nat.le_of_ble_eq_true rfl) dX11_month_78
      · refine lv_bipush (v := -103) C.1 C.2.1 dX11_month_37 (by decide) ?_
        rw [show (oMonth (pk P) (pn P) (nI j) d (F, B, G, dk)) = _ from ((onV_s hv).trans ((ifn_n h1).trans (ifo_n h2)))]
        exact ct_i C hr hlocks rfl (fun t ht hW => mz_mk hro hw ht hW) hS (Nat.le_of_ble_eq_true rfl) (Nat.le_of_ble_eq_true rfl) dX11_month_39
    · refine lv_bipush (v := -102) C.1 C.2.1 dX11_month_26 (by decide) ?_
      rw [show (oMonth (pk P) (pn P) (nI j) d (F, B, G, dk)) = _ from ((onV_s hv).trans (ifn_p h1))]
      exact ct_i C hr hlocks rfl (fun t ht hW => mz_mk hro hw ht hW) hS (Nat.le_of_ble_eq_true rfl) (Nat.le_of_ble_eq_true rfl) dX11_month_28
theorem eN_3 {K : Nat → Nat} {i : Nat} {h : Int32} {F : Nat → Nat → Int32} {B G : Nat → Int32} {dk : List Nat} : (eN K i h (F, B, G, dk)).1 < 3 := by
  unfold eN
  by_cases h3 : K i = 3
  · rw [if_pos h3]; exact pE_3
  · rw [if_neg h3]
    by_cases h5 : K i = 5
    · rw [if_pos h5]
      unfold eT
      by_cases q : (pE K i h (F, iB B 5, G, dk)).1 = 0
      · rw [if_pos q]; exact (show (0 : Nat) < 3 by decide)
      · rw [if_neg q]; exact pE_3
    · rw [if_neg h5]
      by_cases h6 : K i = 6 ∨ K i = 7
      · rw [if_pos h6]; exact pE_3
      · rw [if_neg h6]
        by_cases h8 : K i = 8
        · rw [if_pos h8]
          unfold eC
          by_cases q : (pE K i h (F, iB B 8, G, dk)).1 = 1
          · rw [if_pos q, pE_1 q]; exact pE_3
          · rw [if_neg q]; exact pE_3
        · rw [if_neg h8]; exact pE_3
set_option maxHeartbeats 400000 in
set_option maxRecDepth 100000 in
/-- ENTER -/
theorem c_X11_enter (l : Launch) (D : va_G) (A : Nat → Prop) (P : SwP) (q : Nat → Nat) (cI : Nat) (F : Nat → Nat → Int32) (B G : Nat → Int32) (dk : List Nat) (thr : Int32) (x : Int32) (h : Int32) (hI : Inv P (F, B, G, dk)) : Ct l yX11_enter (.code yX11_enter cX11_enter 3 (some .int)) ({ frames := 6, cells := 0, slots := 0, locals := 160 }) A [.ref (q 0), .int x, .int h] (Mz D A q cI (pn P) F B G dk thr) (.inl (some (.int (if (oEnter (pk P) (pn P) x h (F, B, G, dk)).1 = 0 then (oEnter (pk P) (pn P) x h (F, B, G, dk)).2.1 else 0)))) (Mz D A q cI (pn P) (oEnter (pk P) (pn P) x h (F, B, G, dk)).2.2.1 (oEnter (pk P) (pn P) x h (F, B, G, dk)).2.2.2.1 (oEnter (pk P) (pn P) x h (F, B, G, dk)).2.2.2.2.1 (oEnter (pk P) (pn P) x h (F, B, G, dk)).2.2.2.2.2 (nI (oEnter (pk P) (pn P) x h (F, B, G, dk)).1)) := by
  refine ct_mk (by decide) (Nat.le_of_ble_eq_true rfl) (fun p e s m below meth c ls C hr hlocks hnm htab hP hl => ?_)
  obtain ⟨r, dv, hro, hw⟩ := hP
  have hS : va_S A s.heap s.heap [] := va_S.rf
  have hl : lv_has ls 3 [(0, .ref (q 0)), (1, .int x), (2, .int h)] := hl
  have hO : Ok P F dk := hI.1
  cases hv : vAt (pn P) x with
  | none =>
    refine lv_aload_n C.1 C.2.1 dX11_enter_0 rfl (lv_at hl 0 rfl) ?_
    refine lv_iconst (v := 0) C.1 C.2.1 dX11_enter_1 (by decide) ?_
    refine mp_thr C hw hS tb_708 dX11_enter_2 (fun H locs hw hS => ?_)
    refine lv_aload_n C.1 C.2.1 dX11_enter_5 rfl (lv_at hl 0 rfl) ?_
    refine lv_iload_n C.1 C.2.1 dX11_enter_6 rfl (lv_at hl 1 rfl) ?_
    have hM := c_X11_isVehicle l D A q cI (pn P) F B G (nI dk.length) r 0 dv hI.1.1 x
    rw [hv] at hM
    rw [show b2i (none : Option Nat).isSome = 0 from rfl] at hM
    refine ct_ret (ct_V0 C hM Mp_bl (Or.inl rfl) tb_781 tb_3 ⟨Nat.le_of_ble_eq_true rfl, Nat.le_of_ble_eq_true rfl⟩ tb_778 ⟨by decide, by decide⟩ tbp_3 tb_780 (m_recv hw) (fun U hU hW => m_post hw hU hW) (sig_code (C.2.2.2.2 _ tb_781)) (by show _ = some 1; decide +kernel) hl.1 rfl (Nat.le_of_ble_eq_true rfl) dX11_enter_7 ⟨Nat.le_of_ble_eq_true rfl, Nat.le_of_ble_eq_true rfl⟩) hS (fun _ h => h) (fun t H locs ht hvm hw _ _ hS => ?_)
    have hw := m_back hw ht hvm
    refine lv_if_ne (tgt := 16) C.1 C.2.1 dX11_enter_10 (by decide) (fun h9 => absurd (by decide) h9) (fun _ => ?_)
    refine lv_bipush (v := -101) C.1 C.2.1 dX11_enter_13 (by decide) ?_
    rw [show (oEnter (pk P) (pn P) x h (F, B, G, dk)) = _ from (onV_n hv)]
    exact ct_i C hr hlocks rfl (fun t ht hW => mz_mk hro hw ht hW) hS (Nat.le_of_ble_eq_true rfl) (Nat.le_of_ble_eq_true rfl) dX11_enter_15
  | some j =>
    have hj : j < pn P := vAt_lt hv
    have hxj := vAt_x hv
    subst hxj
    have hj24 : j < 24 := Nat.lt_of_lt_of_le hj hO.1
    have hkj : pk P j < 9 := hO.2.1 j hj
    have hF := hO.2.2.1 j hj
    refine lv_aload_n C.1 C.2.1 dX11_enter_0 rfl (lv_at hl 0 rfl) ?_
    refine lv_iconst (v := 0) C.1 C.2.1 dX11_enter_1 (by decide) ?_
    refine mp_thr C hw hS tb_708 dX11_enter_2 (fun H locs hw hS => ?_)
    refine lv_aload_n C.1 C.2.1 dX11_enter_5 rfl (lv_at hl 0 rfl) ?_
    refine lv_iload_n C.1 C.2.1 dX11_enter_6 rfl (lv_at hl 1 rfl) ?_
    have hM := c_X11_isVehicle l D A q cI (pn P) F B G (nI dk.length) r 0 dv hI.1.1 (nI j)
    rw [hv] at hM
    rw [show b2i (some j : Option Nat).isSome = 1 from rfl] at hM
    refine ct_ret (ct_V0 C hM Mp_bl (Or.inl rfl) tb_781 tb_3 ⟨Nat.le_of_ble_eq_true rfl, Nat.le_of_ble_eq_true rfl⟩ tb_778 ⟨by decide, by decide⟩ tbp_3 tb_780 (m_recv hw) (fun U hU hW => m_post hw hU hW) (sig_code (C.2.2.2.2 _ tb_781)) (by show _ = some 1; decide +kernel) hl.1 rfl (Nat.le_of_ble_eq_true rfl) dX11_enter_7 ⟨Nat.le_of_ble_eq_true rfl, Nat.le_of_ble_eq_true rfl⟩) hS (fun _ h => h) (fun t H locs ht hvm hw _ _ hS => ?_)
    have hw := m_back hw ht hvm
    refine lv_if_ne (tgt := 16) C.1 C.2.1 dX11_enter_10 (by decide) (fun _ => ?_) (fun h9 => absurd h9 (by decide))
    refine lv_iload_n C.1 C.2.1 dX11_enter_16 rfl (lv_at hl 2 rfl) ?_
    refine ct_ret (ct_S C (c_X11_isHour l (h)) Tr_bl (Or.inl rfl) tb_792 tb_3 ⟨Nat.le_of_ble_eq_true rfl, Nat.le_of_ble_eq_true rfl⟩ tb_790 ⟨by decide, by decide⟩ tb_791 (fun _ _ _ => trivial) (by show _ = some 1; decide +kernel) hl.1 rfl (Nat.le_of_ble_eq_true rfl) dX11_enter_17 ⟨Nat.le_of_ble_eq_true rfl, Nat.le_of_ble_eq_true rfl⟩) hS (fun _ h => False.elim h) (fun t H locs ht hvm _ _ hk hS => ?_)
    have hw := m_kept hw hk
    refine lv_if_ne (tgt := 26) C.1 C.2.1 dX11_enter_20 (by decide) (fun h1 => ?_) (fun h1 => ?_)
    · refine lv_aload_n C.1 C.2.1 dX11_enter_26 rfl (lv_at hl 0 rfl) ?_
      refine mg_get C hw 6 (by decide) tb_714 rfl dX11_enter_27 ?_
      refine lv_iload_n C.1 C.2.1 dX11_enter_30 rfl (lv_at hl 1 rfl) ?_
      refine ma_place C hw hj24 rfl dX11_enter_31 ?_
      refine lv_iconst (v := 1) C.1 C.2.1 dX11_enter_32 (by decide) ?_
      refine lv_icmp_ne (tgt := 39) C.1 C.2.1 dX11_enter_33 (by decide) (fun h2 => ?_) (fun h2 => ?_)
      · refine lv_aload_n C.1 C.2.1 dX11_enter_39 rfl (lv_at hl 0 rfl) ?_
        refine lv_aload_n C.1 C.2.1 dX11_enter_40 rfl (lv_at hl 0 rfl) ?_
        refine lv_iload_n C.1 C.2.1 dX11_enter_41 rfl (lv_at hl 1 rfl) ?_
        refine lv_iload_n C.1 C.2.1 dX11_enter_42 rfl (lv_at hl 2 rfl) ?_
        have hnd : j ∉ dk := fun z => h2 (hI.2.2.1 j z)
        refine ct_ret (ct_V0 C (c_X11_enters l D A P q cI F B G dk 0 hO j hj h (hO.lt hj hnd) hI.2.2.2.2.2.1) Mz_bl (Or.inl rfl) tb_820 tb_3 ⟨Nat.le_of_ble_eq_true rfl, Nat.le_of_ble_eq_true rfl⟩ tb_817 ⟨by decide, by decide⟩ tbp_9 tb_819 (m_recv hw) (fun U hU hW => mz_mk hro hw hU hW) (sig_code (C.2.2.2.2 _ tb_820)) (by show _ = some 2; decide +kernel) hl.1 rfl (Nat.le_of_ble_eq_true rfl) dX11_enter_43 ⟨Nat.le_of_ble_eq_true rfl, Nat.le_of_ble_eq_true rfl⟩) hS (fun _ h => h) (fun t H locs ht hvm hw _ _ hS => ?_)
        obtain ⟨r, dv, hro, hw⟩ := hw
        have hw := m_back hw ht hvm
        refine mp_thr C hw hS tb_708 dX11_enter_46 (fun H locs hw hS => ?_)
        refine lv_aload_n C.1 C.2.1 dX11_enter_49 rfl (lv_at hl 0 rfl) ?_
        refine mg_get C hw 0 (by decide) tb_708 rfl dX11_enter_50 ?_
        refine lv_if_ne (tgt := 65) C.1 C.2.1 dX11_enter_53 (by decide) (fun h3 => ?_) (fun h3 => ?_)
        · refine lv_iconst (v := 0) C.1 C.2.1 dX11_enter_65 (by decide) ?_
          rw [show (oEnter (pk P) (pn P) (nI j) h (F, B, G, dk)) = _ from ((onV_s hv).trans ((ifn_n h1).trans (if_neg h2)))]
          exact ct_i C hr hlocks (by rw [if_neg (fun z => h3 (by rw [show (eN (pk P) j h (F, B, G, dk)).1 = 0 from z]; rfl))]) (fun t ht hW => mz_mk hro hw ht hW) hS (Nat.le_of_ble_eq_true rfl) (Nat.le_of_ble_eq_true rfl) dX11_enter_66
        · refine lv_aload_n C.1 C.2.1 dX11_enter_56 rfl (lv_at hl 0 rfl) ?_
          refine mg_get C hw 7 (by decide) tb_715 rfl dX11_enter_57 ?_
          refine lv_iload_n C.1 C.2.1 dX11_enter_60 rfl (lv_at hl 1 rfl) ?_
          refine ma_paid C hw hj24 rfl dX11_enter_61 ?_
          refine lv_goto (tgt := 66) C.1 C.2.1 dX11_enter_62 (by decide) ?_
          rw [show (oEnter (pk P) (pn P) (nI j) h (F, B, G, dk)) = _ from ((onV_s hv).trans ((ifn_n h1).trans (if_neg h2)))]
          have hen3 : (eN (pk P) j h (F, B, G, dk)).1 < 3 := eN_3
          have h0 : (eN (pk P) j h (F, B, G, dk)).1 = 0 := (nI_eq (b := 0) (by omega) (by omega)).mp h3
          exact ct_i C hr hlocks (by rw [if_pos (show (eN (pk P) j h (F, B, G, dk)).1 = 0 from h0)]) (fun t ht hW => mz_mk hro hw ht hW) hS (Nat.le_of_ble_eq_true rfl) (Nat.le_of_ble_eq_true rfl) dX11_enter_66
      · refine lv_bipush (v := -103) C.1 C.2.1 dX11_enter_36 (by decide) ?_
        rw [show (oEnter (pk P) (pn P) (nI j) h (F, B, G, dk)) = _ from ((onV_s hv).trans ((ifn_n h1).trans (if_pos h2)))]
        exact ct_i C hr hlocks rfl (fun t ht hW => mz_mk hro hw ht hW) hS (Nat.le_of_ble_eq_true rfl) (Nat.le_of_ble_eq_true rfl) dX11_enter_38
    · refine lv_bipush (v := -102) C.1 C.2.1 dX11_enter_23 (by decide) ?_
      rw [show (oEnter (pk P) (pn P) (nI j) h (F, B, G, dk)) = _ from ((onV_s hv).trans (ifn_p h1))]
      exact ct_i C hr hlocks rfl (fun t ht hW => mz_mk hro hw ht hW) hS (Nat.le_of_ble_eq_true rfl) (Nat.le_of_ble_eq_true rfl) dX11_enter_25
set_option maxHeartbeats 400000 in
set_option maxRecDepth 100000 in
/-- LEAVE -/
theorem c_X11_leave (l : Launch) (D : va_G) (A : Nat → Prop) (P : SwP) (q : Nat → Nat) (cI : Nat) (F : Nat → Nat → Int32) (B G : Nat → Int32) (dk : List Nat) (thr : Int32) (x : Int32) (hI : Inv P (F, B, G, dk)) : Ct l yX11_leave (.code yX11_leave cX11_leave 2 (some .int)) ({ frames := 6, cells := 0, slots := 0, locals := 160 }) A [.ref (q 0), .int x] (Mz D A q cI (pn P) F B G dk thr) (.inl (some (.int (oLeave (pk P) (pn P) x (F, B, G, dk)).2.1))) (Mz D A q cI (pn P) (oLeave (pk P) (pn P) x (F, B, G, dk)).2.2.1 (oLeave (pk P) (pn P) x (F, B, G, dk)).2.2.2.1 (oLeave (pk P) (pn P) x (F, B, G, dk)).2.2.2.2.1 (oLeave (pk P) (pn P) x (F, B, G, dk)).2.2.2.2.2 0) := by
  refine ct_mk (by decide) (Nat.le_of_ble_eq_true rfl) (fun p e s m below meth c ls C hr hlocks hnm htab hP hl => ?_)
  obtain ⟨r, dv, hro, hw⟩ := hP
  have hS : va_S A s.heap s.heap [] := va_S.rf
  have hl : lv_has ls 2 [(0, .ref (q 0)), (1, .int x)] := hl
  have hO : Ok P F dk := hI.1
  cases hv : vAt (pn P) x with
  | none =>
    refine lv_aload_n C.1 C.2.1 dX11_leave_0 rfl (lv_at hl 0 rfl) ?_
    refine lv_iconst (v := 0) C.1 C.2.1 dX11_leave_1 (by decide) ?_
    refine mp_thr C hw hS tb_708 dX11_leave_2 (fun H locs hw hS => ?_)
    refine lv_aload_n C.1 C.2.1 dX11_leave_5 rfl (lv_at hl 0 rfl) ?_
    refine lv_iload_n C.1 C.2.1 dX11_leave_6 rfl (lv_at hl 1 rfl) ?_
    have hM := c_X11_isVehicle l D A q cI (pn P) F B G (nI dk.length) r 0 dv hI.1.1 x
    rw [hv] at hM
    rw [show b2i (none : Option Nat).isSome = 0 from rfl] at hM
    refine ct_ret (ct_V0 C hM Mp_bl (Or.inl rfl) tb_781 tb_3 ⟨Nat.le_of_ble_eq_true rfl, Nat.le_of_ble_eq_true rfl⟩ tb_778 ⟨by decide, by decide⟩ tbp_3 tb_780 (m_recv hw) (fun U hU hW => m_post hw hU hW) (sig_code (C.2.2.2.2 _ tb_781)) (by show _ = some 1; decide +kernel) hl.1 rfl (Nat.le_of_ble_eq_true rfl) dX11_leave_7 ⟨Nat.le_of_ble_eq_true rfl, Nat.le_of_ble_eq_true rfl⟩) hS (fun _ h => h) (fun t H locs ht hvm hw _ _ hS => ?_)
    have hw := m_back hw ht hvm
    refine lv_if_ne (tgt := 16) C.1 C.2.1 dX11_leave_10 (by decide) (fun h9 => absurd (by decide) h9) (fun _ => ?_)
    refine lv_bipush (v := -101) C.1 C.2.1 dX11_leave_13 (by decide) ?_
    rw [show (oLeave (pk P) (pn P) x (F, B, G, dk)) = _ from (onV_n hv)]
    exact ct_i C hr hlocks rfl (fun t ht hW => mz_mk hro hw ht hW) hS (Nat.le_of_ble_eq_true rfl) (Nat.le_of_ble_eq_true rfl) dX11_leave_15
  | some j =>
    have hj : j < pn P := vAt_lt hv
    have hxj := vAt_x hv
    subst hxj
    have hj24 : j < 24 := Nat.lt_of_lt_of_le hj hO.1
    have hkj : pk P j < 9 := hO.2.1 j hj
    have hF := hO.2.2.1 j hj
    refine lv_aload_n C.1 C.2.1 dX11_leave_0 rfl (lv_at hl 0 rfl) ?_
    refine lv_iconst (v := 0) C.1 C.2.1 dX11_leave_1 (by decide) ?_
    refine mp_thr C hw hS tb_708 dX11_leave_2 (fun H locs hw hS => ?_)
    refine lv_aload_n C.1 C.2.1 dX11_leave_5 rfl (lv_at hl 0 rfl) ?_
    refine lv_iload_n C.1 C.2.1 dX11_leave_6 rfl (lv_at hl 1 rfl) ?_
    have hM := c_X11_isVehicle l D A q cI (pn P) F B G (nI dk.length) r 0 dv hI.1.1 (nI j)
    rw [hv] at hM
    rw [show b2i (some j : Option Nat).isSome = 1 from rfl] at hM
    refine ct_ret (ct_V0 C hM Mp_bl (Or.inl rfl) tb_781 tb_3 ⟨Nat.le_of_ble_eq_true rfl, Nat.le_of_ble_eq_true rfl⟩ tb_778 ⟨by decide, by decide⟩ tbp_3 tb_780 (m_recv hw) (fun U hU hW => m_post hw hU hW) (sig_code (C.2.2.2.2 _ tb_781)) (by show _ = some 1; decide +kernel) hl.1 rfl (Nat.le_of_ble_eq_true rfl) dX11_leave_7 ⟨Nat.le_of_ble_eq_true rfl, Nat.le_of_ble_eq_true rfl⟩) hS (fun _ h => h) (fun t H locs ht hvm hw _ _ hS => ?_)
    have hw := m_back hw ht hvm
    refine lv_if_ne (tgt := 16) C.1 C.2.1 dX11_leave_10 (by decide) (fun _ => ?_) (fun h9 => absurd h9 (by decide))
    refine lv_aload_n C.1 C.2.1 dX11_leave_16 rfl (lv_at hl 0 rfl) ?_
    refine mg_get C hw 6 (by decide) tb_714 rfl dX11_leave_17 ?_
    refine lv_iload_n C.1 C.2.1 dX11_leave_20 rfl (lv_at hl 1 rfl) ?_
    refine ma_place C hw hj24 rfl dX11_leave_21 ?_
    refine lv_if_ne (tgt := 28) C.1 C.2.1 dX11_leave_22 (by decide) (fun h1 => ?_) (fun h1 => ?_)
    · refine lv_aload_n C.1 C.2.1 dX11_leave_28 rfl (lv_at hl 0 rfl) ?_
      refine lv_iload_n C.1 C.2.1 dX11_leave_29 rfl (lv_at hl 1 rfl) ?_
      have hm : j ∈ dk := Decidable.not_not.mp (fun z => h1 (hI.2.2.2.1 j hj z))
      refine ct_ret (ct_V0 C (c_X11_leaves l D A P q cI F B G dk 0 hO j hj hm) Mz_bl (Or.inl rfl) tb_832 tb_3 ⟨Nat.le_of_ble_eq_true rfl, Nat.le_of_ble_eq_true rfl⟩ tb_829 ⟨by decide, by decide⟩ tbp_11 tb_831 (m_recv hw) (fun U hU hW => mz_mk hro hw hU hW) (sig_code (C.2.2.2.2 _ tb_832)) (by show _ = some 1; decide +kernel) hl.1 rfl (Nat.le_of_ble_eq_true rfl) dX11_leave_30 ⟨Nat.le_of_ble_eq_true rfl, Nat.le_of_ble_eq_true rfl⟩) hS (fun _ h => h) (fun t H locs ht hvm hw _ _ hS => ?_)
      obtain ⟨r, dv, hro, hw⟩ := hw
      have hw := m_back hw ht hvm
      refine lv_aload_n C.1 C.2.1 dX11_leave_33 rfl (lv_at hl 0 rfl) ?_
      refine mg_get C hw 11 (by decide) tb_719 rfl dX11_leave_34 ?_
      rw [show (oLeave (pk P) (pn P) (nI j) (F, B, G, dk)) = _ from ((onV_s hv).trans (if_neg h1))]
      exact ct_i C hr hlocks rfl (fun t ht hW => mz_mk hro hw ht hW) hS (Nat.le_of_ble_eq_true rfl) (Nat.le_of_ble_eq_true rfl) dX11_leave_37
    · refine lv_bipush (v := -103) C.1 C.2.1 dX11_leave_25 (by decide) ?_
      rw [show (oLeave (pk P) (pn P) (nI j) (F, B, G, dk)) = _ from ((onV_s hv).trans (if_pos h1))]
      exact ct_i C hr hlocks rfl (fun t ht hW => mz_mk hro hw ht hW) hS (Nat.le_of_ble_eq_true rfl) (Nat.le_of_ble_eq_true rfl) dX11_leave_27
