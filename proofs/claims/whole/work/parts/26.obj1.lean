/-- what every state of a run keeps to -/
def Inv (P : SwP) (z : SwSt) : Prop := Ok P z.1 z.2.2.2 ∧ (z.2.2.1 4 = 0 ∨ z.2.2.1 4 = 1) ∧ (∀ j, j ∈ z.2.2.2 → z.1 j 6 = 1) ∧ (∀ j, j < pn P → j ∉ z.2.2.2 → z.1 j 6 = 0) ∧ (z.2.2.1 4 = 0 → z.2.2.2 = []) ∧ (∃ g : Nat, g ≤ 9000 ∧ z.2.2.1 3 = nI g) ∧ (∀ j, j < pn P → z.1 j 4 ≤ 100) ∧ (∀ a, pn P ≤ a → ∀ b, z.1 a b = 0)
theorem tellF_lt {w : Int32} {k : Nat} (h : tellF w = some k) : 2 ≤ k ∧ k < 10 := by
  unfold tellF at h
  repeat' split at h
  all_goals first | (cases h; exact ⟨by decide, by decide⟩) | cases h
theorem le0_nil {dk : List Nat} (h : nI dk.length ≤ 0) (hL : dk.length ≤ 24) : dk = [] := by
  cases dk with
  | nil => rfl
  | cons a t => exact absurd h (nI_nle (by simp) (by omega))
theorem sw_cases {w : Int32} {N : Nat} (h1 : ¬ w.toInt < 0) (h2 : ¬ (N : Int) < w.toInt) (hN : N < 2 ^ 31) : ∃ j : Nat, j ≤ N ∧ w = nI j := by
  have h0 : ¬ w < 0 := fun q => h1 (by rw [Int32.lt_iff_toInt_lt] at q; simpa using q)
  obtain ⟨j, hj, rfl⟩ := nI_of h0
  rw [nI_toInt hj] at h2
  exact ⟨j, by omega, rfl⟩
theorem sw_out {w : Int32} {N : Nat} (h : w.toInt < 0 ∨ (N : Int) < w.toInt) (hN : N < 2 ^ 31) {j : Nat} (hj : j ≤ N) : w ≠ nI j := by
  rintro rfl
  rw [nI_toInt (by omega)] at h
  omega
set_option maxHeartbeats 400000 in
set_option maxRecDepth 100000 in
/-- WEIGHT -/
theorem c_X10_weight (l : Launch) (D : va_G) (A : Nat → Prop) (P : SwP) (F : Nat → Nat → Int32) (B G : Nat → Int32) (dk : List Nat) (x : Int32) (hlt : l.stackTraces = false) (hI : Inv P (F, B, G, dk)) : Ct l yX10_weight (.code yX10_weight cX10_weight 3 (some .int)) ({ frames := 9, cells := 2, slots := 12, locals := 200 }) A [.ref (pS P), .int x] (fun U => Ev A U ∧ Xp D A P F B G dk U) (ocE (oWeight (pk P) (pn P) x (F, B, G, dk)).1 (some (.int (oWeight (pk P) (pn P) x (F, B, G, dk)).2.1))) (Xp D A P (oWeight (pk P) (pn P) x (F, B, G, dk)).2.2.1 (oWeight (pk P) (pn P) x (F, B, G, dk)).2.2.2.1 (oWeight (pk P) (pn P) x (F, B, G, dk)).2.2.2.2.1 (oWeight (pk P) (pn P) x (F, B, G, dk)).2.2.2.2.2) := by
  refine ct_mk (by decide) (Nat.le_of_ble_eq_true rfl) (fun p e s m below meth c ls C hr hlocks hnm htab hP hl => ?_)
  obtain ⟨hE, hw⟩ := hP
  have hS : va_S A s.heap s.heap [] := va_S.rf
  have hl : lv_has ls 3 [(0, .ref (pS P)), (1, .int x)] := hl
  have hO : Ok P F dk := hI.1
  have hz : G 4 = 0 ∨ G 4 = 1 := hI.2.1
  cases hv : vAt (pn P) x with
  | none =>
    refine lv_aload_n C.1 C.2.1 dX10_weight_0 rfl (lv_at hl 0 rfl) ?_
    refine lv_iload_n C.1 C.2.1 dX10_weight_1 rfl (lv_at hl 1 rfl) ?_
    have hM := c_X10_find l D A P F B G dk hO x
    rw [hv] at hM
    refine ct_ret (ct_V0 C hM Xp_bl (Or.inl rfl) tb_316 tb_1 ⟨Nat.le_of_ble_eq_true rfl, Nat.le_of_ble_eq_true rfl⟩ tb_313 ⟨by decide, by decide⟩ tbp_1 tb_315 (x_recvS hw) (fun U hU hW => x_post hw hU hW) (sig_code (C.2.2.2.2 _ tb_316)) (by show _ = some 1; decide +kernel) hl.1 rfl (Nat.le_of_ble_eq_true rfl) dX10_weight_2 ⟨Nat.le_of_ble_eq_true rfl, Nat.le_of_ble_eq_true rfl⟩) hS (fun _ h => h) (fun t H locs ht hvm hw _ _ hS => ?_)
    have hw := x_back hw ht hvm
    refine lv_astore_nN (lv' := [(2, .null), (0, .ref (pS P)), (1, .int (x))]) C.1 C.2.1 dX10_weight_5 rfl hl (by decide) rfl (fun ls hl => ?_)
    refine lv_aload_nN C.1 C.2.1 dX10_weight_6 rfl (lv_at hl 0 rfl) ?_
    refine lv_ifnonnullN C.1 C.2.1 dX10_weight_7 ?_
    refine lv_bipush (v := -101) C.1 C.2.1 dX10_weight_10 (by decide) ?_
    rw [show (oWeight (pk P) (pn P) x (F, B, G, dk)) = _ from (onV_n hv)]
    exact ct_i C hr hlocks rfl (fun t ht hW => x_post hw ht hW) hS (Nat.le_of_ble_eq_true rfl) (Nat.le_of_ble_eq_true rfl) dX10_weight_12
  | some j =>
    have hj : j < pn P := vAt_lt hv
    have hkj : pk P j < 9 := hO.2.1 j hj
    refine lv_aload_n C.1 C.2.1 dX10_weight_0 rfl (lv_at hl 0 rfl) ?_
    refine lv_iload_n C.1 C.2.1 dX10_weight_1 rfl (lv_at hl 1 rfl) ?_
    have hM := c_X10_find l D A P F B G dk hO x
    rw [hv] at hM
    refine ct_ret (ct_V0 C hM Xp_bl (Or.inl rfl) tb_316 tb_1 ⟨Nat.le_of_ble_eq_true rfl, Nat.le_of_ble_eq_true rfl⟩ tb_313 ⟨by decide, by decide⟩ tbp_1 tb_315 (x_recvS hw) (fun U hU hW => x_post hw hU hW) (sig_code (C.2.2.2.2 _ tb_316)) (by show _ = some 1; decide +kernel) hl.1 rfl (Nat.le_of_ble_eq_true rfl) dX10_weight_2 ⟨Nat.le_of_ble_eq_true rfl, Nat.le_of_ble_eq_true rfl⟩) hS (fun _ h => h) (fun t H locs ht hvm hw _ _ hS => ?_)
    have hw := x_back hw ht hvm
    refine lv_astore_n (lv' := [(2, .ref (pa P j)), (0, .ref (pS P)), (1, .int (x))]) C.1 C.2.1 dX10_weight_5 rfl hl (by decide) rfl (fun ls hl => ?_)
    refine lv_aload_n C.1 C.2.1 dX10_weight_6 rfl (lv_at hl 0 rfl) ?_
    refine lv_ifnonnull (tgt := 13) C.1 C.2.1 dX10_weight_7 (by decide) ?_
    refine lv_aload_n C.1 C.2.1 dX10_weight_13 rfl (lv_at hl 0 rfl) ?_
    refine ct_ret (v_weight C hw hj hkj tb_317 hl.1 dX10_weight_14 ⟨Nat.le_of_ble_eq_true rfl, Nat.le_of_ble_eq_true rfl⟩ (Nat.le_of_ble_eq_true rfl) ⟨Nat.le_of_ble_eq_true rfl, Nat.le_of_ble_eq_true rfl⟩) hS (fun _ h => h) (fun t H locs ht hvm hw _ _ hS => ?_)
    have hw := x_back hw ht hvm
    rw [show (oWeight (pk P) (pn P) x (F, B, G, dk)) = _ from (onV_s hv)]
    exact ct_i C hr hlocks rfl (fun t ht hW => x_post hw ht hW) hS (Nat.le_of_ble_eq_true rfl) (Nat.le_of_ble_eq_true rfl) dX10_weight_17
set_option maxHeartbeats 400000 in
set_option maxRecDepth 100000 in
/-- FIT -/
theorem c_X10_fits (l : Launch) (D : va_G) (A : Nat → Prop) (P : SwP) (F : Nat → Nat → Int32) (B G : Nat → Int32) (dk : List Nat) (x : Int32) (hlt : l.stackTraces = false) (hI : Inv P (F, B, G, dk)) : Ct l yX10_fits (.code yX10_fits cX10_fits 3 (some .int)) ({ frames := 9, cells := 2, slots := 12, locals := 200 }) A [.ref (pS P), .int x] (fun U => Ev A U ∧ Xp D A P F B G dk U) (ocE (oFits (pk P) (pn P) x (F, B, G, dk)).1 (some (.int (oFits (pk P) (pn P) x (F, B, G, dk)).2.1))) (Xp D A P (oFits (pk P) (pn P) x (F, B, G, dk)).2.2.1 (oFits (pk P) (pn P) x (F, B, G, dk)).2.2.2.1 (oFits (pk P) (pn P) x (F, B, G, dk)).2.2.2.2.1 (oFits (pk P) (pn P) x (F, B, G, dk)).2.2.2.2.2) := by
  refine ct_mk (by decide) (Nat.le_of_ble_eq_true rfl) (fun p e s m below meth c ls C hr hlocks hnm htab hP hl => ?_)
  obtain ⟨hE, hw⟩ := hP
  have hS : va_S A s.heap s.heap [] := va_S.rf
  have hl : lv_has ls 3 [(0, .ref (pS P)), (1, .int x)] := hl
  have hO : Ok P F dk := hI.1
  have hz : G 4 = 0 ∨ G 4 = 1 := hI.2.1
  cases hv : vAt (pn P) x with
  | none =>
    refine lv_aload_n C.1 C.2.1 dX10_fits_0 rfl (lv_at hl 0 rfl) ?_
    refine lv_iload_n C.1 C.2.1 dX10_fits_1 rfl (lv_at hl 1 rfl) ?_
    have hM := c_X10_find l D A P F B G dk hO x
    rw [hv] at hM
    refine ct_ret (ct_V0 C hM Xp_bl (Or.inl rfl) tb_316 tb_1 ⟨Nat.le_of_ble_eq_true rfl, Nat.le_of_ble_eq_true rfl⟩ tb_313 ⟨by decide, by decide⟩ tbp_1 tb_315 (x_recvS hw) (fun U hU hW => x_post hw hU hW) (sig_code (C.2.2.2.2 _ tb_316)) (by show _ = some 1; decide +kernel) hl.1 rfl (Nat.le_of_ble_eq_true rfl) dX10_fits_2 ⟨Nat.le_of_ble_eq_true rfl, Nat.le_of_ble_eq_true rfl⟩) hS (fun _ h => h) (fun t H locs ht hvm hw _ _ hS => ?_)
    have hw := x_back hw ht hvm
    refine lv_astore_nN (lv' := [(2, .null), (0, .ref (pS P)), (1, .int (x))]) C.1 C.2.1 dX10_fits_5 rfl hl (by decide) rfl (fun ls hl => ?_)
    refine lv_aload_nN C.1 C.2.1 dX10_fits_6 rfl (lv_at hl 0 rfl) ?_
    refine lv_ifnonnullN C.1 C.2.1 dX10_fits_7 ?_
    refine lv_bipush (v := -101) C.1 C.2.1 dX10_fits_10 (by decide) ?_
    rw [show (oFits (pk P) (pn P) x (F, B, G, dk)) = _ from (onV_n hv)]
    exact ct_i C hr hlocks rfl (fun t ht hW => x_post hw ht hW) hS (Nat.le_of_ble_eq_true rfl) (Nat.le_of_ble_eq_true rfl) dX10_fits_12
  | some j =>
    have hj : j < pn P := vAt_lt hv
    have hkj : pk P j < 9 := hO.2.1 j hj
    refine lv_aload_n C.1 C.2.1 dX10_fits_0 rfl (lv_at hl 0 rfl) ?_
    refine lv_iload_n C.1 C.2.1 dX10_fits_1 rfl (lv_at hl 1 rfl) ?_
    have hM := c_X10_find l D A P F B G dk hO x
    rw [hv] at hM
    refine ct_ret (ct_V0 C hM Xp_bl (Or.inl rfl) tb_316 tb_1 ⟨Nat.le_of_ble_eq_true rfl, Nat.le_of_ble_eq_true rfl⟩ tb_313 ⟨by decide, by decide⟩ tbp_1 tb_315 (x_recvS hw) (fun U hU hW => x_post hw hU hW) (sig_code (C.2.2.2.2 _ tb_316)) (by show _ = some 1; decide +kernel) hl.1 rfl (Nat.le_of_ble_eq_true rfl) dX10_fits_2 ⟨Nat.le_of_ble_eq_true rfl, Nat.le_of_ble_eq_true rfl⟩) hS (fun _ h => h) (fun t H locs ht hvm hw _ _ hS => ?_)
    have hw := x_back hw ht hvm
    refine lv_astore_n (lv' := [(2, .ref (pa P j)), (0, .ref (pS P)), (1, .int (x))]) C.1 C.2.1 dX10_fits_5 rfl hl (by decide) rfl (fun ls hl => ?_)
    refine lv_aload_n C.1 C.2.1 dX10_fits_6 rfl (lv_at hl 0 rfl) ?_
    refine lv_ifnonnull (tgt := 13) C.1 C.2.1 dX10_fits_7 (by decide) ?_
    refine lv_aload_n C.1 C.2.1 dX10_fits_13 rfl (lv_at hl 0 rfl) ?_
    refine ct_ret (v_fit C hw hj hkj hO hz tb_347 hl.1 dX10_fits_14 ⟨Nat.le_of_ble_eq_true rfl, Nat.le_of_ble_eq_true rfl⟩ (Nat.le_of_ble_eq_true rfl) ⟨Nat.le_of_ble_eq_true rfl, Nat.le_of_ble_eq_true rfl⟩) hS (fun _ h => h) (fun t H locs ht hvm hw _ _ hS => ?_)
    have hw := x_back hw ht hvm
    refine lv_if_eq (tgt := 24) C.1 C.2.1 dX10_fits_17 (by decide) (fun h1 => ?_) (fun h1 => ?_)
    · refine lv_iconst (v := 0) C.1 C.2.1 dX10_fits_24 (by decide) ?_
      rw [show (oFits (pk P) (pn P) x (F, B, G, dk)) = _ from onV_s hv]
      exact ct_i C hr hlocks (by rw [show fR (pk P) F G dk j = _ from b2i_0 h1]; rfl) (fun t ht hW => x_post hw ht hW) hS (Nat.le_of_ble_eq_true rfl) (Nat.le_of_ble_eq_true rfl) dX10_fits_25
    · refine lv_iconst (v := 1) C.1 C.2.1 dX10_fits_20 (by decide) ?_
      refine lv_goto (tgt := 25) C.1 C.2.1 dX10_fits_21 (by decide) ?_
      rw [show (oFits (pk P) (pn P) x (F, B, G, dk)) = _ from onV_s hv]
      exact ct_i C hr hlocks (by rw [show fR (pk P) F G dk j = _ from b2i_1 h1]; rfl) (fun t ht hW => x_post hw ht hW) hS (Nat.le_of_ble_eq_true rfl) (Nat.le_of_ble_eq_true rfl) dX10_fits_25
set_option maxHeartbeats 400000 in
set_option maxRecDepth 100000 in
/-- REBATE -/
theorem c_X10_rebate (l : Launch) (D : va_G) (A : Nat → Prop) (P : SwP) (F : Nat → Nat → Int32) (B G : Nat → Int32) (dk : List Nat) (x : Int32) (hlt : l.stackTraces = false) (hI : Inv P (F, B, G, dk)) : Ct l yX10_rebate (.code yX10_rebate cX10_rebate 3 (some .int)) ({ frames := 9, cells := 2, slots := 12, locals := 200 }) A [.ref (pS P), .int x] (fun U => Ev A U ∧ Xp D A P F B G dk U) (ocE (oRebate (pk P) (pn P) x (F, B, G, dk)).1 (some (.int (oRebate (pk P) (pn P) x (F, B, G, dk)).2.1))) (Xp D A P (oRebate (pk P) (pn P) x (F, B, G, dk)).2.2.1 (oRebate (pk P) (pn P) x (F, B, G, dk)).2.2.2.1 (oRebate (pk P) (pn P) x (F, B, G, dk)).2.2.2.2.1 (oRebate (pk P) (pn P) x (F, B, G, dk)).2.2.2.2.2) := by
  refine ct_mk (by decide) (Nat.le_of_ble_eq_true rfl) (fun p e s m below meth c ls C hr hlocks hnm htab hP hl => ?_)
  obtain ⟨hE, hw⟩ := hP
  have hS : va_S A s.heap s.heap [] := va_S.rf
  have hl : lv_has ls 3 [(0, .ref (pS P)), (1, .int x)] := hl
  have hO : Ok P F dk := hI.1
  have hz : G 4 = 0 ∨ G 4 = 1 := hI.2.1
  cases hv : vAt (pn P) x with
  | none =>
    refine lv_aload_n C.1 C.2.1 dX10_rebate_0 rfl (lv_at hl 0 rfl) ?_
    refine lv_iload_n C.1 C.2.1 dX10_rebate_1 rfl (lv_at hl 1 rfl) ?_
    have hM := c_X10_find l D A P F B G dk hO x
    rw [hv] at hM
    refine ct_ret (ct_V0 C hM Xp_bl (Or.inl rfl) tb_316 tb_1 ⟨Nat.le_of_ble_eq_true rfl, Nat.le_of_ble_eq_true rfl⟩ tb_313 ⟨by decide, by decide⟩ tbp_1 tb_315 (x_recvS hw) (fun U hU hW => x_post hw hU hW) (sig_code (C.2.2.2.2 _ tb_316)) (by show _ = some 1; decide +kernel) hl.1 rfl (Nat.le_of_ble_eq_true rfl) dX10_rebate_2 ⟨Nat.le_of_ble_eq_true rfl, Nat.le_of_ble_eq_true rfl⟩) hS (fun _ h => h) (fun t H locs ht hvm hw _ _ hS => ?_)
    have hw := x_back hw ht hvm
    refine lv_astore_nN (lv' := [(2, .null), (0, .ref (pS P)), (1, .int (x))]) C.1 C.2.1 dX10_rebate_5 rfl hl (by decide) rfl (fun ls hl => ?_)
    refine lv_aload_nN C.1 C.2.1 dX10_rebate_6 rfl (lv_at hl 0 rfl) ?_
    refine lv_ifnonnullN C.1 C.2.1 dX10_rebate_7 ?_
    refine lv_bipush (v := -101) C.1 C.2.1 dX10_rebate_10 (by decide) ?_
    rw [show (oRebate (pk P) (pn P) x (F, B, G, dk)) = _ from (onV_n hv)]
    exact ct_i C hr hlocks rfl (fun t ht hW => x_post hw ht hW) hS (Nat.le_of_ble_eq_true rfl) (Nat.le_of_ble_eq_true rfl) dX10_rebate_12
  | some j =>
    have hj : j < pn P := vAt_lt hv
    have hkj : pk P j < 9 := hO.2.1 j hj
    refine lv_aload_n C.1 C.2.1 dX10_rebate_0 rfl (lv_at hl 0 rfl) ?_
    refine lv_iload_n C.1 C.2.1 dX10_rebate_1 rfl (lv_at hl 1 rfl) ?_
    have hM := c_X10_find l D A P F B G dk hO x
    rw [hv] at hM
    refine ct_ret (ct_V0 C hM Xp_bl (Or.inl rfl) tb_316 tb_1 ⟨Nat.le_of_ble_eq_true rfl, Nat.le_of_ble_eq_true rfl⟩ tb_313 ⟨by decide, by decide⟩ tbp_1 tb_315 (x_recvS hw) (fun U hU hW => x_post hw hU hW) (sig_code (C.2.2.2.2 _ tb_316)) (by show _ = some 1; decide +kernel) hl.1 rfl (Nat.le_of_ble_eq_true rfl) dX10_rebate_2 ⟨Nat.le_of_ble_eq_true rfl, Nat.le_of_ble_eq_true rfl⟩) hS (fun _ h => h) (fun t H locs ht hvm hw _ _ hS => ?_)
    have hw := x_back hw ht hvm
    refine lv_astore_n (lv' := [(2, .ref (pa P j)), (0, .ref (pS P)), (1, .int (x))]) C.1 C.2.1 dX10_rebate_5 rfl hl (by decide) rfl (fun ls hl => ?_)
    refine lv_aload_n C.1 C.2.1 dX10_rebate_6 rfl (lv_at hl 0 rfl) ?_
    refine lv_ifnonnull (tgt := 13) C.1 C.2.1 dX10_rebate_7 (by decide) ?_
    refine lv_aload_n C.1 C.2.1 dX10_rebate_13 rfl (lv_at hl 0 rfl) ?_
    refine ct_ret (v_rebate C hw hj hkj tb_416 hl.1 dX10_rebate_14 ⟨Nat.le_of_ble_eq_true rfl, Nat.le_of_ble_eq_true rfl⟩ (Nat.le_of_ble_eq_true rfl) ⟨Nat.le_of_ble_eq_true rfl, Nat.le_of_ble_eq_true rfl⟩) hS (fun _ h => h) (fun t H locs ht hvm hw _ _ hS => ?_)
    have hw := x_back hw ht hvm
    rw [show (oRebate (pk P) (pn P) x (F, B, G, dk)) = _ from (onV_s hv)]
    exact ct_i C hr hlocks rfl (fun t ht hW => x_post hw ht hW) hS (Nat.le_of_ble_eq_true rfl) (Nat.le_of_ble_eq_true rfl) dX10_rebate_17
set_option maxHeartbeats 400000 in
set_option maxRecDepth 100000 in
/-- TOLL -/
theorem c_X10_toll (l : Launch) (D : va_G) (A : Nat → Prop) (P : SwP) (F : Nat → Nat → Int32) (B G : Nat → Int32) (dk : List Nat) (x : Int32) (h : Int32) (hlt : l.stackTraces = false) (hI : Inv P (F, B, G, dk)) : Ct l yX10_toll (.code yX10_toll cX10_toll 4 (some .int)) ({ frames := 9, cells := 2, slots := 12, locals := 200 }) A [.ref (pS P), .int x, .int h] (fun U => Ev A U ∧ Xp D A P F B G dk U) (ocE (oToll (pk P) (pn P) x h (F, B, G, dk)).1 (some (.int (oToll (pk P) (pn P) x h (F, B, G, dk)).2.1))) (Xp D A P (oToll (pk P) (pn P) x h (F, B, G, dk)).2.2.1 (oToll (pk P) (pn P) x h (F, B, G, dk)).2.2.2.1 (oToll (pk P) (pn P) x h (F, B, G, dk)).2.2.2.2.1 (oToll (pk P) (pn P) x h (F, B, G, dk)).2.2.2.2.2) := by
  refine ct_mk (by decide) (Nat.le_of_ble_eq_true rfl) (fun p e s m below meth c ls C hr hlocks hnm htab hP hl => ?_)
  obtain ⟨hE, hw⟩ := hP
  have hS : va_S A s.heap s.heap [] := va_S.rf
  have hl : lv_has ls 4 [(0, .ref (pS P)), (1, .int x), (2, .int h)] := hl
  have hO : Ok P F dk := hI.1
  have hz : G 4 = 0 ∨ G 4 = 1 := hI.2.1
  cases hv : vAt (pn P) x with
  | none =>
    refine lv_aload_n C.1 C.2.1 dX10_toll_0 rfl (lv_at hl 0 rfl) ?_
    refine lv_iload_n C.1 C.2.1 dX10_toll_1 rfl (lv_at hl 1 rfl) ?_
    have hM := c_X10_find l D A P F B G dk hO x
    rw [hv] at hM
    refine ct_ret (ct_V0 C hM Xp_bl (Or.inl rfl) tb_316 tb_1 ⟨Nat.le_of_ble_eq_true rfl, Nat.le_of_ble_eq_true rfl⟩ tb_313 ⟨by decide, by decide⟩ tbp_1 tb_315 (x_recvS hw) (fun U hU hW => x_post hw hU hW) (sig_code (C.2.2.2.2 _ tb_316)) (by show _ = some 1; decide +kernel) hl.1 rfl (Nat.le_of_ble_eq_true rfl) dX10_toll_2 ⟨Nat.le_of_ble_eq_true rfl, Nat.le_of_ble_eq_true rfl⟩) hS (fun _ h => h) (fun t H locs ht hvm hw _ _ hS => ?_)
    have hw := x_back hw ht hvm
    refine lv_astore_nN (lv' := [(3, .null), (0, .ref (pS P)), (1, .int (x)), (2, .int (h))]) C.1 C.2.1 dX10_toll_5 rfl hl (by decide) rfl (fun ls hl => ?_)
    refine lv_aload_nN C.1 C.2.1 dX10_toll_6 rfl (lv_at hl 0 rfl) ?_
    refine lv_ifnonnullN C.1 C.2.1 dX10_toll_7 ?_
    refine lv_bipush (v := -101) C.1 C.2.1 dX10_toll_10 (by decide) ?_
    rw [show (oToll (pk P) (pn P) x h (F, B, G, dk)) = _ from (onV_n hv)]
    exact ct_i C hr hlocks rfl (fun t ht hW => x_post hw ht hW) hS (Nat.le_of_ble_eq_true rfl) (Nat.le_of_ble_eq_true rfl) dX10_toll_12
  | some j =>
    have hj : j < pn P := vAt_lt hv
    have hkj : pk P j < 9 := hO.2.1 j hj
    refine lv_aload_n C.1 C.2.1 dX10_toll_0 rfl (lv_at hl 0 rfl) ?_
    refine lv_iload_n C.1 C.2.1 dX10_toll_1 rfl (lv_at hl 1 rfl) ?_
    have hM := c_X10_find l D A P F B G dk hO x
    rw [hv] at hM
    refine ct_ret (ct_V0 C hM Xp_bl (Or.inl rfl) tb_316 tb_1 ⟨Nat.le_of_ble_eq_true rfl, Nat.le_of_ble_eq_true rfl⟩ tb_313 ⟨by decide, by decide⟩ tbp_1 tb_315 (x_recvS hw) (fun U hU hW => x_post hw hU hW) (sig_code (C.2.2.2.2 _ tb_316)) (by show _ = some 1; decide +kernel) hl.1 rfl (Nat.le_of_ble_eq_true rfl) dX10_toll_2 ⟨Nat.le_of_ble_eq_true rfl, Nat.le_of_ble_eq_true rfl⟩) hS (fun _ h => h) (fun t H locs ht hvm hw _ _ hS => ?_)
    have hw := x_back hw ht hvm
    refine lv_astore_n (lv' := [(3, .ref (pa P j)), (0, .ref (pS P)), (1, .int (x)), (2, .int (h))]) C.1 C.2.1 dX10_toll_5 rfl hl (by decide) rfl (fun ls hl => ?_)
    refine lv_aload_n C.1 C.2.1 dX10_toll_6 rfl (lv_at hl 0 rfl) ?_
    refine lv_ifnonnull (tgt := 13) C.1 C.2.1 dX10_toll_7 (by decide) ?_
    refine lv_iload_n C.1 C.2.1 dX10_toll_13 rfl (lv_at hl 3 rfl) ?_
    refine lv_iconst (v := 0) C.1 C.2.1 dX10_toll_14 (by decide) ?_
    refine lv_bipush (v := 23) C.1 C.2.1 dX10_toll_15 (by decide) ?_
    refine ct_ret (ct_S C (c_X10_isOutside l (h) (0) (23)) Tr_bl (Or.inl rfl) tb_97 tb_1 ⟨Nat.le_of_ble_eq_true rfl, Nat.le_of_ble_eq_true rfl⟩ tb_95 ⟨by decide, by decide⟩ tb_96 (fun _ _ _ => trivial) (by show _ = some 3; decide +kernel) hl.1 rfl (Nat.le_of_ble_eq_true rfl) dX10_toll_17 ⟨Nat.le_of_ble_eq_true rfl, Nat.le_of_ble_eq_true rfl⟩) hS (fun _ h => False.elim h) (fun t H locs ht hvm _ _ hk hS => ?_)
    have hw := x_kept hw hk
    refine lv_if_eq (tgt := 26) C.1 C.2.1 dX10_toll_20 (by decide) (fun h1 => ?_) (fun h1 => ?_)
    · refine lv_aload_n C.1 C.2.1 dX10_toll_26 rfl (lv_at hl 0 rfl) ?_
      refine lv_iload_n C.1 C.2.1 dX10_toll_27 rfl (lv_at hl 3 rfl) ?_
      refine ct_go (v_toll C hw hj hkj hlt hE hS tb_693 hl.1 dX10_toll_28 ⟨Nat.le_of_ble_eq_true rfl, Nat.le_of_ble_eq_true rfl⟩ (Nat.le_of_ble_eq_true rfl) ⟨Nat.le_of_ble_eq_true rfl, Nat.le_of_ble_eq_true rfl⟩) hS (fun _ h => h) (fun E hoc ce q9 t H locs ht hvm hw _ _ hS hce hcv hcl => ?_) (fun v hoc t H locs ht hvm hw _ _ hS => ?_)
      · obtain ⟨hx, rfl⟩ := tO_r hoc
        have hw := x_back hw ht hvm
        rw [show tG (pk P j) F j G = upd G 6 (G 6 + 1) from if_pos hx] at hw
        rw [show (oToll (pk P) (pn P) x h (F, B, G, dk)) = _ from ((onV_s hv).trans ((ifo_n h1).trans (if_pos hx)))]
        exact ct_out (fun x hx => absurd (htab x hx) id) hlocks hce hcv hcl rfl (fun t ht hvm => x_al hw ht hvm) hS (Nat.le_of_ble_eq_true rfl) (Nat.le_of_ble_eq_true rfl)
      · obtain ⟨hx, rfl⟩ := tO_l hoc
        have hw := x_back hw ht hvm
        rw [show tG (pk P j) F j G = G from if_neg (by rw [hx]; decide)] at hw
        rw [show (oToll (pk P) (pn P) x h (F, B, G, dk)) = _ from ((onV_s hv).trans ((ifo_n h1).trans (if_neg (by rw [hx]; decide))))]
        exact ct_i C hr hlocks rfl (fun t ht hW => x_post hw ht hW) hS (Nat.le_of_ble_eq_true rfl) (Nat.le_of_ble_eq_true rfl) dX10_toll_31
    · refine lv_bipush (v := -102) C.1 C.2.1 dX10_toll_23 (by decide) ?_
      rw [show (oToll (pk P) (pn P) x h (F, B, G, dk)) = _ from ((onV_s hv).trans (ifo_p h1))]
      exact ct_i C hr hlocks rfl (fun t ht hW => x_post hw ht hW) hS (Nat.le_of_ble_eq_true rfl) (Nat.le_of_ble_eq_true rfl) dX10_toll_25
set_option maxHeartbeats 400000 in
set_option maxRecDepth 100000 in
/-- ENTER -/
theorem c_X10_enter (l : Launch) (D : va_G) (A : Nat → Prop) (P : SwP) (F : Nat → Nat → Int32) (B G : Nat → Int32) (dk : List Nat) (x : Int32) (h : Int32) (hlt : l.stackTraces = false) (hI : Inv P (F, B, G, dk)) : Ct l yX10_enter (.code yX10_enter cX10_enter 4 (some .int)) ({ frames := 9, cells := 2, slots := 12, locals := 200 }) A [.ref (pS P), .int x, .int h] (fun U => Ev A U ∧ Xp D A P F B G dk U) (ocE (oEnter (pk P) (pn P) x h (F, B, G, dk)).1 (some (.int (oEnter (pk P) (pn P) x h (F, B, G, dk)).2.1))) (Xp D A P (oEnter (pk P) (pn P) x h (F, B, G, dk)).2.2.1 (oEnter (pk P) (pn P) x h (F, B, G, dk)).2.2.2.1 (oEnter (pk P) (pn P) x h (F, B, G, dk)).2.2.2.2.1 (oEnter (pk P) (pn P) x h (F, B, G, dk)).2.2.2.2.2) := by
  refine ct_mk (by decide) (Nat.le_of_ble_eq_true rfl) (fun p e s m below meth c ls C hr hlocks hnm htab hP hl => ?_)
  obtain ⟨hE, hw⟩ := hP
  have hS : va_S A s.heap s.heap [] := va_S.rf
  have hl : lv_has ls 4 [(0, .ref (pS P)), (1, .int x), (2, .int h)] := hl
  have hO : Ok P F dk := hI.1
  have hz : G 4 = 0 ∨ G 4 = 1 := hI.2.1
  cases hv : vAt (pn P) x with
  | none =>
    refine lv_aload_n C.1 C.2.1 dX10_enter_0 rfl (lv_at hl 0 rfl) ?_
    refine lv_iload_n C.1 C.2.1 dX10_enter_1 rfl (lv_at hl 1 rfl) ?_
    have hM := c_X10_find l D A P F B G dk hO x
    rw [hv] at hM
    refine ct_ret (ct_V0 C hM Xp_bl (Or.inl rfl) tb_316 tb_1 ⟨Nat.le_of_ble_eq_true rfl, Nat.le_of_ble_eq_true rfl⟩ tb_313 ⟨by decide, by decide⟩ tbp_1 tb_315 (x_recvS hw) (fun U hU hW => x_post hw hU hW) (sig_code (C.2.2.2.2 _ tb_316)) (by show _ = some 1; decide +kernel) hl.1 rfl (Nat.le_of_ble_eq_true rfl) dX10_enter_2 ⟨Nat.le_of_ble_eq_true rfl, Nat.le_of_ble_eq_true rfl⟩) hS (fun _ h => h) (fun t H locs ht hvm hw _ _ hS => ?_)
    have hw := x_back hw ht hvm
    refine lv_astore_nN (lv' := [(3, .null), (0, .ref (pS P)), (1, .int (x)), (2, .int (h))]) C.1 C.2.1 dX10_enter_5 rfl hl (by decide) rfl (fun ls hl => ?_)
    refine lv_aload_nN C.1 C.2.1 dX10_enter_6 rfl (lv_at hl 0 rfl) ?_
    refine lv_ifnonnullN C.1 C.2.1 dX10_enter_7 ?_
    refine lv_bipush (v := -101) C.1 C.2.1 dX10_enter_10 (by decide) ?_
    rw [show (oEnter (pk P) (pn P) x h (F, B, G, dk)) = _ from (onV_n hv)]
    exact ct_i C hr hlocks rfl (fun t ht hW => x_post hw ht hW) hS (Nat.le_of_ble_eq_true rfl) (Nat.le_of_ble_eq_true rfl) dX10_enter_12
  | some j =>
    have hj : j < pn P := vAt_lt hv
    have hkj : pk P j < 9 := hO.2.1 j hj
    refine lv_aload_n C.1 C.2.1 dX10_enter_0 rfl (lv_at hl 0 rfl) ?_
    refine lv_iload_n C.1 C.2.1 dX10_enter_1 rfl (lv_at hl 1 rfl) ?_
    have hM := c_X10_find l D A P F B G dk hO x
    rw [hv] at hM
    refine ct_ret (ct_V0 C hM Xp_bl (Or.inl rfl) tb_316 tb_1 ⟨Nat.le_of_ble_eq_true rfl, Nat.le_of_ble_eq_true rfl⟩ tb_313 ⟨by decide, by decide⟩ tbp_1 tb_315 (x_recvS hw) (fun U hU hW => x_post hw hU hW) (sig_code (C.2.2.2.2 _ tb_316)) (by show _ = some 1; decide +kernel) hl.1 rfl (Nat.le_of_ble_eq_true rfl) dX10_enter_2 ⟨Nat.le_of_ble_eq_true rfl, Nat.le_of_ble_eq_true rfl⟩) hS (fun _ h => h) (fun t H locs ht hvm hw _ _ hS => ?_)
    have hw := x_back hw ht hvm
    refine lv_astore_n (lv' := [(3, .ref (pa P j)), (0, .ref (pS P)), (1, .int (x)), (2, .int (h))]) C.1 C.2.1 dX10_enter_5 rfl hl (by decide) rfl (fun ls hl => ?_)
    refine lv_aload_n C.1 C.2.1 dX10_enter_6 rfl (lv_at hl 0 rfl) ?_
    refine lv_ifnonnull (tgt := 13) C.1 C.2.1 dX10_enter_7 (by decide) ?_
    refine lv_iload_n C.1 C.2.1 dX10_enter_13 rfl (lv_at hl 3 rfl) ?_
    refine lv_iconst (v := 0) C.1 C.2.1 dX10_enter_14 (by decide) ?_
    refine lv_bipush (v := 23) C.1 C.2.1 dX10_enter_15 (by decide) ?_
    refine ct_ret (ct_S C (c_X10_isOutside l (h) (0) (23)) Tr_bl (Or.inl rfl) tb_97 tb_1 ⟨Nat.le_of_ble_eq_true rfl, Nat.le_of_ble_eq_true rfl⟩ tb_95 ⟨by decide, by decide⟩ tb_96 (fun _ _ _ => trivial) (by show _ = some 3; decide +kernel) hl.1 rfl (Nat.le_of_ble_eq_true rfl) dX10_enter_17 ⟨Nat.le_of_ble_eq_true rfl, Nat.le_of_ble_eq_true rfl⟩) hS (fun _ h => False.elim h) (fun t H locs ht hvm _ _ hk hS => ?_)
    have hw := x_kept hw hk
    refine lv_if_eq (tgt := 26) C.1 C.2.1 dX10_enter_20 (by decide) (fun h1 => ?_) (fun h1 => ?_)
    · refine lv_aload_n C.1 C.2.1 dX10_enter_26 rfl (lv_at hl 0 rfl) ?_
      refine xv_get C hw hj hkj 6 (by decide) tb_147 (Or.inl rfl) rfl dX10_enter_27 ?_
      refine lv_iconst (v := 1) C.1 C.2.1 dX10_enter_30 (by decide) ?_
      refine lv_icmp_ne (tgt := 37) C.1 C.2.1 dX10_enter_31 (by decide) (fun h2 => ?_) (fun h2 => ?_)
      · refine lv_aload_n C.1 C.2.1 dX10_enter_37 rfl (lv_at hl 0 rfl) ?_
        refine lv_iload_n C.1 C.2.1 dX10_enter_38 rfl (lv_at hl 3 rfl) ?_
        have hnd : j ∉ dk := fun q => h2 (hI.2.2.1 j q)
        refine ct_go (v_enter C hw hj hkj hlt hE hS hO hz (hO.lt hj hnd) tb_607 hl.1 dX10_enter_39 ⟨Nat.le_of_ble_eq_true rfl, Nat.le_of_ble_eq_true rfl⟩ (Nat.le_of_ble_eq_true rfl) ⟨Nat.le_of_ble_eq_true rfl, Nat.le_of_ble_eq_true rfl⟩) hS (fun _ h => h) (fun E hoc ce q9 t H locs ht hvm hw _ _ hS hce hcv hcl => ?_) (fun v hoc t H locs ht hvm hw _ _ hS => ?_)
        · have hw := x_back hw ht hvm
          rw [show (oEnter (pk P) (pn P) x h (F, B, G, dk)) = _ from ((onV_s hv).trans ((ifo_n h1).trans (if_neg h2)))]
          exact ct_out (fun x hx => absurd (htab x hx) id) hlocks hce hcv hcl (by rcases ocE_r hoc with ⟨q1, rfl⟩ | ⟨q0, q1, rfl⟩; (show ocE (eN (pk P) j h (F, B, G, dk)).1 _ = _; unfold ocE; rw [if_neg (by rw [q1]; decide), if_pos q1]); (show ocE (eN (pk P) j h (F, B, G, dk)).1 _ = _; unfold ocE; rw [if_neg q0, if_neg q1])) (fun t ht hvm => x_al hw ht hvm) hS (Nat.le_of_ble_eq_true rfl) (Nat.le_of_ble_eq_true rfl)
        · obtain ⟨h0, rfl⟩ := ocE_l hoc
          have hw := x_back hw ht hvm
          rw [show (oEnter (pk P) (pn P) x h (F, B, G, dk)) = _ from ((onV_s hv).trans ((ifo_n h1).trans (if_neg h2)))]
          refine lv_aload_n C.1 C.2.1 dX10_enter_42 rfl (lv_at hl 0 rfl) ?_
          refine xv_get C hw hj hkj 7 (by decide) tb_149 (Or.inl rfl) rfl dX10_enter_43 ?_
          exact ct_i C hr hlocks (ocE_0 h0) (fun t ht hW => x_post hw ht hW) hS (Nat.le_of_ble_eq_true rfl) (Nat.le_of_ble_eq_true rfl) dX10_enter_46
      · refine lv_bipush (v := -103) C.1 C.2.1 dX10_enter_34 (by decide) ?_
        rw [show (oEnter (pk P) (pn P) x h (F, B, G, dk)) = _ from ((onV_s hv).trans ((ifo_n h1).trans (if_pos h2)))]
        exact ct_i C hr hlocks rfl (fun t ht hW => x_post hw ht hW) hS (Nat.le_of_ble_eq_true rfl) (Nat.le_of_ble_eq_true rfl) dX10_enter_36
    · refine lv_bipush (v := -102) C.1 C.2.1 dX10_enter_23 (by decide) ?_
      rw [show (oEnter (pk P) (pn P) x h (F, B, G, dk)) = _ from ((onV_s hv).trans (ifo_p h1))]
      exact ct_i C hr hlocks rfl (fun t ht hW => x_post hw ht hW) hS (Nat.le_of_ble_eq_true rfl) (Nat.le_of_ble_eq_true rfl) dX10_enter_25
set_option maxHeartbeats 400000 in
set_option maxRecDepth 100000 in
/-- LEAVE -/
theorem c_X10_leave (l : Launch) (D : va_G) (A : Nat → Prop) (P : SwP) (F : Nat → Nat → Int32) (B G : Nat → Int32) (dk : List Nat) (x : Int32) (hlt : l.stackTraces = false) (hI : Inv P (F, B, G, dk)) : Ct l yX10_leave (.code yX10_leave cX10_leave 3 (some .int)) ({ frames := 9, cells := 2, slots := 12, locals := 200 }) A [.ref (pS P), .int x] (fun U => Ev A U ∧ Xp D A P F B G dk U) (ocE (oLeave (pk P) (pn P) x (F, B, G, dk)).1 (some (.int (oLeave (pk P) (pn P) x (F, B, G, dk)).2.1))) (Xp D A P (oLeave (pk P) (pn P) x (F, B, G, dk)).2.2.1 (oLeave (pk P) (pn P) x (F, B, G, dk)).2.2.2.1 (oLeave (pk P) (pn P) x (F, B, G, dk)).2.2.2.2.1 (oLeave (pk P) (pn P) x (F, B, G, dk)).2.2.2.2.2) := by
  refine ct_mk (by decide) (Nat.le_of_ble_eq_true rfl) (fun p e s m below meth c ls C hr hlocks hnm htab hP hl => ?_)
  obtain ⟨hE, hw⟩ := hP
  have hS : va_S A s.heap s.heap [] := va_S.rf
  have hl : lv_has ls 3 [(0, .ref (pS P)), (1, .int x)] := hl
  have hO : Ok P F dk := hI.1
  have hz : G 4 = 0 ∨ G 4 = 1 := hI.2.1
  cases hv : vAt (pn P) x with
  | none =>
    refine lv_aload_n C.1 C.2.1 dX10_leave_0 rfl (lv_at hl 0 rfl) ?_
    refine lv_iload_n C.1 C.2.1 dX10_leave_1 rfl (lv_at hl 1 rfl) ?_
    have hM := c_X10_find l D A P F B G dk hO x
    rw [hv] at hM
    refine ct_ret (ct_V0 C hM Xp_bl (Or.inl rfl) tb_316 tb_1 ⟨Nat.le_of_ble_eq_true rfl, Nat.le_of_ble_eq_true rfl⟩ tb_313 ⟨by decide, by decide⟩ tbp_1 tb_315 (x_recvS hw) (fun U hU hW => x_post hw hU hW) (sig_code (C.2.2.2.2 _ tb_316)) (by show _ = some 1; decide +kernel) hl.1 rfl (Nat.le_of_ble_eq_true rfl) dX10_leave_2 ⟨Nat.le_of_ble_eq_true rfl, Nat.le_of_ble_eq_true rfl⟩) hS (fun _ h => h) (fun t H locs ht hvm hw _ _ hS => ?_)
    have hw := x_back hw ht hvm
    refine lv_astore_nN (lv' := [(2, .null), (0, .ref (pS P)), (1, .int (x))]) C.1 C.2.1 dX10_leave_5 rfl hl (by decide) rfl (fun ls hl => ?_)
    refine lv_aload_nN C.1 C.2.1 dX10_leave_6 rfl (lv_at hl 0 rfl) ?_
    refine lv_ifnonnullN C.1 C.2.1 dX10_leave_7 ?_
    refine lv_bipush (v := -101) C.1 C.2.1 dX10_leave_10 (by decide) ?_
    rw [show (oLeave (pk P) (pn P) x (F, B, G, dk)) = _ from (onV_n hv)]
    exact ct_i C hr hlocks rfl (fun t ht hW => x_post hw ht hW) hS (Nat.le_of_ble_eq_true rfl) (Nat.le_of_ble_eq_true rfl) dX10_leave_12
  | some j =>
    have hj : j < pn P := vAt_lt hv
    have hkj : pk P j < 9 := hO.2.1 j hj
    refine lv_aload_n C.1 C.2.1 dX10_leave_0 rfl (lv_at hl 0 rfl) ?_
    refine lv_iload_n C.1 C.2.1 dX10_leave_1 rfl (lv_at hl 1 rfl) ?_
    have hM := c_X10_find l D A P F B G dk hO x
    rw [hv] at hM
    refine ct_ret (ct_V0 C hM Xp_bl (Or.inl rfl) tb_316 tb_1 ⟨Nat.le_of_ble_eq_true rfl, Nat.le_of_ble_eq_true rfl⟩ tb_313 ⟨by decide, by decide⟩ tbp_1 tb_315 (x_recvS hw) (fun U hU hW => x_post hw hU hW) (sig_code (C.2.2.2.2 _ tb_316)) (by show _ = some 1; decide +kernel) hl.1 rfl (Nat.le_of_ble_eq_true rfl) dX10_leave_2 ⟨Nat.le_of_ble_eq_true rfl, Nat.le_of_ble_eq_true rfl⟩) hS (fun _ h => h) (fun t H locs ht hvm hw _ _ hS => ?_)
    have hw := x_back hw ht hvm
    refine lv_astore_n (lv' := [(2, .ref (pa P j)), (0, .ref (pS P)), (1, .int (x))]) C.1 C.2.1 dX10_leave_5 rfl hl (by decide) rfl (fun ls hl => ?_)
    refine lv_aload_n C.1 C.2.1 dX10_leave_6 rfl (lv_at hl 0 rfl) ?_
    refine lv_ifnonnull (tgt := 13) C.1 C.2.1 dX10_leave_7 (by decide) ?_
    refine lv_aload_n C.1 C.2.1 dX10_leave_13 rfl (lv_at hl 0 rfl) ?_
    refine xv_get C hw hj hkj 6 (by decide) tb_147 (Or.inl rfl) rfl dX10_leave_14 ?_
    refine lv_if_ne (tgt := 23) C.1 C.2.1 dX10_leave_17 (by decide) (fun h1 => ?_) (fun h1 => ?_)
    · refine lv_aload_n C.1 C.2.1 dX10_leave_23 rfl (lv_at hl 0 rfl) ?_
      refine ct_ret (v_leave C hw hj hkj hO hE.2.1 tb_380 hl.1 dX10_leave_24 ⟨Nat.le_of_ble_eq_true rfl, Nat.le_of_ble_eq_true rfl⟩ (Nat.le_of_ble_eq_true rfl) ⟨Nat.le_of_ble_eq_true rfl, Nat.le_of_ble_eq_true rfl⟩) hS (fun _ h => h) (fun t H locs ht hvm hw _ _ hS => ?_)
      have hw := x_back hw ht hvm
      refine lv_aload_n C.1 C.2.1 dX10_leave_27 rfl (lv_at hl 1 rfl) ?_
      refine xs_get C hw 0 (by decide) tb_81 rfl dX10_leave_28 ?_
      refine xb_get C hw 2 (by decide) tb_49 rfl dX10_leave_31 ?_
      rw [show (oLeave (pk P) (pn P) x (F, B, G, dk)) = _ from ((onV_s hv).trans (if_neg h1))]
      exact ct_i C hr hlocks rfl (fun t ht hW => x_post hw ht hW) hS (Nat.le_of_ble_eq_true rfl) (Nat.le_of_ble_eq_true rfl) dX10_leave_34
    · refine lv_bipush (v := -103) C.1 C.2.1 dX10_leave_20 (by decide) ?_
      rw [show (oLeave (pk P) (pn P) x (F, B, G, dk)) = _ from ((onV_s hv).trans (if_pos h1))]
      exact ct_i C hr hlocks rfl (fun t ht hW => x_post hw ht hW) hS (Nat.le_of_ble_eq_true rfl) (Nat.le_of_ble_eq_true rfl) dX10_leave_22
set_option maxHeartbeats 400000 in
set_option maxRecDepth 100000 in
/-- BILL -/
theorem c_X10_bill (l : Launch) (D : va_G) (A : Nat → Prop) (P : SwP) (F : Nat → Nat → Int32) (B G : Nat → Int32) (dk : List Nat) (x : Int32) (h : Int32) (hlt : l.stackTraces = false) (hI : Inv P (F, B, G, dk)) : Ct l yX10_bill (.code yX10_bill cX10_bill 4 (some .int)) ({ frames := 9, cells := 2, slots := 12, locals := 200 }) A [.ref (pS P), .int x, .int h] (fun U => Ev A U ∧ Xp D A P F B G dk U) (ocE (oBill (pk P) (pn P) x h (F, B, G, dk)).1 (some (.int (oBill (pk P) (pn P) x h (F, B, G, dk)).2.1))) (Xp D A P (oBill (pk P) (pn P) x h (F, B, G, dk)).2.2.1 (oBill (pk P) (pn P) x h (F, B, G, dk)).2.2.2.1 (oBill (pk P) (pn P) x h (F, B, G, dk)).2.2.2.2.1 (oBill (pk P) (pn P) x h (F, B, G, dk)).2.2.2.2.2) := by
  refine ct_mk (by decide) (Nat.le_of_ble_eq_true rfl) (fun p e s m below meth c ls C hr hlocks hnm htab hP hl => ?_)
  obtain ⟨hE, hw⟩ := hP
  have hS : va_S A s.heap s.heap [] := va_S.rf
  have hl : lv_has ls 4 [(0, .ref (pS P)), (1, .int x), (2, .int h)] := hl
  have hO : Ok P F dk := hI.1
  have hz : G 4 = 0 ∨ G 4 = 1 := hI.2.1
  cases hv : vAt (pn P) x with
  | none =>
    refine lv_aload_n C.1 C.2.1 dX10_bill_0 rfl (lv_at hl 0 rfl) ?_
    refine lv_iload_n C.1 C.2.1 dX10_bill_1 rfl (lv_at hl 1 rfl) ?_
    have hM := c_X10_find l D A P F B G dk hO x
    rw [hv] at hM
    refine ct_ret (ct_V0 C hM Xp_bl (Or.inl rfl) tb_316 tb_1 ⟨Nat.le_of_ble_eq_true rfl, Nat.le_of_ble_eq_true rfl⟩ tb_313 ⟨by decide, by decide⟩ tbp_1 tb_315 (x_recvS hw) (fun U hU hW => x_post hw hU hW) (sig_code (C.2.2.2.2 _ tb_316)) (by show _ = some 1; decide +kernel) hl.1 rfl (Nat.le_of_ble_eq_true rfl) dX10_bill_2 ⟨Nat.le_of_ble_eq_true rfl, Nat.le_of_ble_eq_true rfl⟩) hS (fun _ h => h) (fun t H locs ht hvm hw _ _ hS => ?_)
    have hw := x_back hw ht hvm
    refine lv_astore_nN (lv' := [(3, .null), (0, .ref (pS P)), (1, .int (x)), (2, .int (h))]) C.1 C.2.1 dX10_bill_5 rfl hl (by decide) rfl (fun ls hl => ?_)
    refine lv_aload_nN C.1 C.2.1 dX10_bill_6 rfl (lv_at hl 0 rfl) ?_
    refine lv_ifnonnullN C.1 C.2.1 dX10_bill_7 ?_
    refine lv_bipush (v := -101) C.1 C.2.1 dX10_bill_10 (by decide) ?_
    rw [show (oBill (pk P) (pn P) x h (F, B, G, dk)) = _ from (onV_n hv)]
    exact ct_i C hr hlocks rfl (fun t ht hW => x_post hw ht hW) hS (Nat.le_of_ble_eq_true rfl) (Nat.le_of_ble_eq_true rfl) dX10_bill_12
  | some j =>
    have hj : j < pn P := vAt_lt hv
    have hkj : pk P j < 9 := hO.2.1 j hj
    refine lv_aload_n C.1 C.2.1 dX10_bill_0 rfl (lv_at hl 0 rfl) ?_
    refine lv_iload_n C.1 C.2.1 dX10_bill_1 rfl (lv_at hl 1 rfl) ?_
    have hM := c_X10_find l D A P F B G dk hO x
    rw [hv] at hM
    refine ct_ret (ct_V0 C hM Xp_bl (Or.inl rfl) tb_316 tb_1 ⟨Nat.le_of_ble_eq_true rfl, Nat.le_of_ble_eq_true rfl⟩ tb_313 ⟨by decide, by decide⟩ tbp_1 tb_315 (x_recvS hw) (fun U hU hW => x_post hw hU hW) (sig_code (C.2.2.2.2 _ tb_316)) (by show _ = some 1; decide +kernel) hl.1 rfl (Nat.le_of_ble_eq_true rfl) dX10_bill_2 ⟨Nat.le_of_ble_eq_true rfl, Nat.le_of_ble_eq_true rfl⟩) hS (fun _ h => h) (fun t H locs ht hvm hw _ _ hS => ?_)
    have hw := x_back hw ht hvm
    refine lv_astore_n (lv' := [(3, .ref (pa P j)), (0, .ref (pS P)), (1, .int (x)), (2, .int (h))]) C.1 C.2.1 dX10_bill_5 rfl hl (by decide) rfl (fun ls hl => ?_)
    refine lv_aload_n C.1 C.2.1 dX10_bill_6 rfl (lv_at hl 0 rfl) ?_
    refine lv_ifnonnull (tgt := 13) C.1 C.2.1 dX10_bill_7 (by decide) ?_
    refine lv_iload_n C.1 C.2.1 dX10_bill_13 rfl (lv_at hl 3 rfl) ?_
    refine lv_iconst (v := 0) C.1 C.2.1 dX10_bill_14 (by decide) ?_
    refine lv_bipush (v := 23) C.1 C.2.1 dX10_bill_15 (by decide) ?_
    refine ct_ret (ct_S C (c_X10_isOutside l (h) (0) (23)) Tr_bl (Or.inl rfl) tb_97 tb_1 ⟨Nat.le_of_ble_eq_true rfl, Nat.le_of_ble_eq_true rfl⟩ tb_95 ⟨by decide, by decide⟩ tb_96 (fun _ _ _ => trivial) (by show _ = some 3; decide +kernel) hl.1 rfl (Nat.le_of_ble_eq_true rfl) dX10_bill_17 ⟨Nat.le_of_ble_eq_true rfl, Nat.le_of_ble_eq_true rfl⟩) hS (fun _ h => False.elim h) (fun t H locs ht hvm _ _ hk hS => ?_)
    have hw := x_kept hw hk
    refine lv_if_eq (tgt := 26) C.1 C.2.1 dX10_bill_20 (by decide) (fun h1 => ?_) (fun h1 => ?_)
    · refine lv_aload_n C.1 C.2.1 dX10_bill_26 rfl (lv_at hl 0 rfl) ?_
      refine ct_ret (v_hasAcc C hw hj hkj tb_444 hl.1 dX10_bill_27 ⟨Nat.le_of_ble_eq_true rfl, Nat.le_of_ble_eq_true rfl⟩ (Nat.le_of_ble_eq_true rfl) ⟨Nat.le_of_ble_eq_true rfl, Nat.le_of_ble_eq_true rfl⟩) hS (fun _ h => h) (fun t H locs ht hvm hw _ _ hS => ?_)
      have hw := x_back hw ht hvm
      refine lv_if_ne (tgt := 36) C.1 C.2.1 dX10_bill_30 (by decide) (fun h2 => ?_) (fun h2 => ?_)
      · refine lv_aload_n C.1 C.2.1 dX10_bill_36 rfl (lv_at hl 0 rfl) ?_
        refine lv_iload_n C.1 C.2.1 dX10_bill_37 rfl (lv_at hl 3 rfl) ?_
        have ha := of_decide_eq_true (b2i_1 h2)
        refine ct_ret (v_bill C hw hj hkj (by omega) tb_461 hl.1 dX10_bill_38 ⟨Nat.le_of_ble_eq_true rfl, Nat.le_of_ble_eq_true rfl⟩ (Nat.le_of_ble_eq_true rfl) ⟨Nat.le_of_ble_eq_true rfl, Nat.le_of_ble_eq_true rfl⟩) hS (fun _ h => h) (fun t H locs ht hvm hw _ _ hS => ?_)
        have hw := x_back hw ht hvm
        rw [show (oBill (pk P) (pn P) x h (F, B, G, dk)) = _ from ((onV_s hv).trans ((ifo_n h1).trans (ifo_p h2)))]
        exact ct_i C hr hlocks rfl (fun t ht hW => x_post hw ht hW) hS (Nat.le_of_ble_eq_true rfl) (Nat.le_of_ble_eq_true rfl) dX10_bill_41
      · refine lv_bipush (v := -103) C.1 C.2.1 dX10_bill_33 (by decide) ?_
        rw [show (oBill (pk P) (pn P) x h (F, B, G, dk)) = _ from ((onV_s hv).trans ((ifo_n h1).trans (ifo_n h2)))]
        exact ct_i C hr hlocks rfl (fun t ht hW => x_post hw ht hW) hS (Nat.le_of_ble_eq_true rfl) (Nat.le_of_ble_eq_true rfl) dX10_bill_35
    · refine lv_bipush (v := -102) C.1 C.2.1 dX10_bill_23 (by decide) ?_
      rw [show (oBill (pk P) (pn P) x h (F, B, G, dk)) = _ from ((onV_s hv).trans (ifo_p h1))]
      exact ct_i C hr hlocks rfl (fun t ht hW => x_post hw ht hW) hS (Nat.le_of_ble_eq_true rfl) (Nat.le_of_ble_eq_true rfl) dX10_bill_25
set_option maxHeartbeats 400000 in
set_option maxRecDepth 100000 in
/-- MONTH -/
theorem c_X10_month (l : Launch) (D : va_G) (A : Nat → Prop) (P : SwP) (F : Nat → Nat → Int32) (B G : Nat → Int32) (dk : List Nat) (x : Int32) (d : Int32) (hlt : l.stackTraces = false) (hI : Inv P (F, B, G, dk)) : Ct l yX10_month (.code yX10_month cX10_month 4 (some .int)) ({ frames := 9, cells := 2, slots := 12, locals := 200 }) A [.ref (pS P), .int x, .int d] (fun U => Ev A U ∧ Xp D A P F B G dk U) (ocE (oMonth (pk P) (pn P) x d (F, B, G, dk)).1 (some (.int (oMonth (pk P) (pn P) x d (F, B, G, dk)).2.1))) (Xp D A P (oMonth (pk P) (pn P) x d (F, B, G, dk)).2.2.1 (oMonth (pk P) (pn P) x d (F, B, G, dk)).2.2.2.1 (oMonth (pk P) (pn P) x d (F, B, G, dk)).2.2.2.2.1 (oMonth (pk P) (pn P) x d (F, B, G, dk)).2.2.2.2.2) := by
  refine ct_mk (by decide) (Nat.le_of_ble_eq_true rfl) (fun p e s m below meth c ls C hr hlocks hnm htab hP hl => ?_)
  obtain ⟨hE, hw⟩ := hP
  have hS : va_S A s.heap s.heap [] := va_S.rf
  have hl : lv_has ls 4 [(0, .ref (pS P)), (1, .int x), (2, .int d)] := hl
  have hO : Ok P F dk := hI.1
  have hz : G 4 = 0 ∨ G 4 = 1 := hI.2.1
  cases hv : vAt (pn P) x with
  | none =>
    refine lv_aload_n C.1 C.2.1 dX10_month_0 rfl (lv_at hl 0 rfl) ?_
    refine lv_iload_n C.1 C.2.1 dX10_month_1 rfl (lv_at hl 1 rfl) ?_
    have hM := c_X10_find l D A P F B G dk hO x
    rw [hv] at hM
    refine ct_ret (ct_V0 C hM Xp_bl (Or.inl rfl) tb_316 tb_1 ⟨Nat.le_of_ble_eq_true rfl, Nat.le_of_ble_eq_true rfl⟩ tb_313 ⟨by decide, by decide⟩ tbp_1 tb_315 (x_recvS hw) (fun U hU hW => x_post hw hU hW) (sig_code (C.2.2.2.2 _ tb_316)) (by show _ = some 1; decide +kernel) hl.1 rfl (Nat.le_of_ble_eq_true rfl) dX10_month_2 ⟨Nat.le_of_ble_eq_true rfl, Nat.le_of_ble_eq_true rfl⟩) hS (fun _ h => h) (fun t H locs ht hvm hw _ _ hS => ?_)
    have hw := x_back hw ht hvm
    refine lv_astore_nN (lv' := [(3, .null), (0, .ref (pS P)), (1, .int (x)), (2, .int (d))]) C.1 C.2.1 dX10_month_5 rfl hl (by decide) rfl (fun ls hl => ?_)
    refine lv_aload_nN C.1 C.2.1 dX10_month_6 rfl (lv_at hl 0 rfl) ?_
    refine lv_ifnonnullN C.1 C.2.1 dX10_month_7 ?_
    refine lv_bipush (v := -101) C.1 C.2.1 dX10_month_10 (by decide) ?_
    rw [show (oMonth (pk P) (pn P) x d (F, B, G, dk)) = _ from (onV_n hv)]
    exact ct_i C hr hlocks rfl (fun t ht hW => x_post hw ht hW) hS (Nat.le_of_ble_eq_true rfl) (Nat.le_of_ble_eq_true rfl) dX10_month_12
  | some j =>
    have hj : j < pn P := vAt_lt hv
    have hkj : pk P j < 9 := hO.2.1 j hj
    refine lv_aload_n C.1 C.2.1 dX10_month_0 rfl (lv_at hl 0 rfl) ?_
    refine lv_iload_n C.1 C.2.1 dX10_month_1 rfl (lv_at hl 1 rfl) ?_
    have hM := c_X10_find l D A P F B G dk hO x
    rw [hv] at hM
    refine ct_ret (ct_V0 C hM Xp_bl (Or.inl rfl) tb_316 tb_1 ⟨Nat.le_of_ble_eq_true rfl, Nat.le_of_ble_eq_true rfl⟩ tb_313 ⟨by decide, by decide⟩ tbp_1 tb_315 (x_recvS hw) (fun U hU hW => x_post hw hU hW) (sig_code (C.2.2.2.2 _ tb_316)) (by show _ = some 1; decide +kernel) hl.1 rfl (Nat.le_of_ble_eq_true rfl) dX10_month_2 ⟨Nat.le_of_ble_eq_true rfl, Nat.le_of_ble_eq_true rfl⟩) hS (fun _ h => h) (fun t H locs ht hvm hw _ _ hS => ?_)
    have hw := x_back hw ht hvm
    refine lv_astore_n (lv' := [(3, .ref (pa P j)), (0, .ref (pS P)), (1, .int (x)), (2, .int (d))]) C.1 C.2.1 dX10_month_5 rfl hl (by decide) rfl (fun ls hl => ?_)
    refine lv_aload_n C.1 C.2.1 dX10_month_6 rfl (lv_at hl 0 rfl) ?_
    refine lv_ifnonnull (tgt := 13) C.1 C.2.1 dX10_month_7 (by decide) ?_
    refine lv_iload_n C.1 C.2.1 dX10_month_13 rfl (lv_at hl 3 rfl) ?_
    refine lv_iconst (v := 0) C.1 C.2.1 dX10_month_14 (by decide) ?_
    refine lv_bipush (v := 31) C.1 C.2.1 dX10_month_15 (by decide) ?_
    refine ct_ret (ct_S C (c_X10_isOutside l (d) (0) (31)) Tr_bl (Or.inl rfl) tb_97 tb_1 ⟨Nat.le_of_ble_eq_true rfl, Nat.le_of_ble_eq_true rfl⟩ tb_95 ⟨by decide, by decide⟩ tb_96 (fun _ _ _ => trivial) (by show _ = some 3; decide +kernel) hl.1 rfl (Nat.le_of_ble_eq_true rfl) dX10_month_17 ⟨Nat.le_of_ble_eq_true rfl, Nat.le_of_ble_eq_true rfl⟩) hS (fun _ h => False.elim h) (fun t H locs ht hvm _ _ hk hS => ?_)
    have hw := x_kept hw hk
    refine lv_if_eq (tgt := 26) C.1 C.2.1 dX10_month_20 (by decide) (fun h1 => ?_) (fun h1 => ?_)
    · refine lv_aload_n C.1 C.2.1 dX10_month_26 rfl (lv_at hl 0 rfl) ?_
      refine ct_ret (v_hasAcc C hw hj hkj tb_444 hl.1 dX10_month_27 ⟨Nat.le_of_ble_eq_true rfl, Nat.le_of_ble_eq_true rfl⟩ (Nat.le_of_ble_eq_true rfl) ⟨Nat.le_of_ble_eq_true rfl, Nat.le_of_ble_eq_true rfl⟩) hS (fun _ h => h) (fun t H locs ht hvm hw _ _ hS => ?_)
      have hw := x_back hw ht hvm
      refine lv_if_ne (tgt := 36) C.1 C.2.1 dX10_month_30 (by decide) (fun h2 => ?_) (fun h2 => ?_)
      · refine lv_aload_n C.1 C.2.1 dX10_month_36 rfl (lv_at hl 0 rfl) ?_
        refine lv_iload_n C.1 C.2.1 dX10_month_37 rfl (lv_at hl 3 rfl) ?_
        have ha : pk P j = 3 ∨ pk P j = 6 ∨ pk P j = 7 := of_decide_eq_true (b2i_1 h2)
        refine ct_ret (v_month C hw hj hkj ha tb_577 hl.1 dX10_month_38 ⟨Nat.le_of_ble_eq_true rfl, Nat.le_of_ble_eq_true rfl⟩ (Nat.le_of_ble_eq_true rfl) ⟨Nat.le_of_ble_eq_true rfl, Nat.le_of_ble_eq_true rfl⟩) hS (fun _ h => h) (fun t H locs ht hvm hw _ _ hS => ?_)
        have hw := x_back hw ht hvm
        rw [show (oMonth (pk P) (pn P) x d (F, B, G, dk)) = _ from ((onV_s hv).trans ((ifo_n h1).trans (ifo_p h2)))]
        exact ct_i C hr hlocks rfl (fun t ht hW => x_post hw ht hW) hS (Nat.le_of_ble_eq_true rfl) (Nat.le_of_ble_eq_true rfl) dX10_month_41
      · refine lv_bipush (v := -103) C.1 C.2.1 dX10_month_33 (by decide) ?_
        rw [show (oMonth (pk P) (pn P) x d (F, B, G, dk)) = _ from ((onV_s hv).trans ((ifo_n h1).trans (ifo_n h2)))]
        exact ct_i C hr hlocks rfl (fun t ht hW => x_post hw ht hW) hS (Nat.le_of_ble_eq_true rfl) (Nat.le_of_ble_eq_true rfl) dX10_month_35
    · refine lv_bipush (v := -102) C.1 C.2.1 dX10_month_23 (by decide) ?_
      rw [show (oMonth (pk P) (pn P) x d (F, B, G, dk)) = _ from ((onV_s hv).trans (ifo_p h1))]
      exact ct_i C hr hlocks rfl (fun t ht hW => x_post hw ht hW) hS (Nat.le_of_ble_eq_true rfl) (Nat.le_of_ble_eq_true rfl) dX10_month_25
set_option maxHeartbeats 400000 in
set_option maxRecDepth 100000 in
/-- what is told of a vehicle -/
theorem c_X10_tell (l : Launch) (D : va_G) (A : Nat → Prop) (P : SwP) (F : Nat → Nat → Int32) (B G : Nat → Int32) (dk : List Nat) (x : Int32) (w : Int32) (hlt : l.stackTraces = false) (hI : Inv P (F, B, G, dk)) : Ct l yX10_tell (.code yX10_tell cX10_tell 4 (some .int)) ({ frames := 9, cells := 2, slots := 12, locals := 200 }) A [.ref (pS P), .int x, .int w] (fun U => Ev A U ∧ Xp D A P F B G dk U) (ocE (oTell (pn P) x w (F, B, G, dk)).1 (some (.int (oTell (pn P) x w (F, B, G, dk)).2.1))) (Xp D A P (oTell (pn P) x w (F, B, G, dk)).2.2.1 (oTell (pn P) x w (F, B, G, dk)).2.2.2.1 (oTell (pn P) x w (F, B, G, dk)).2.2.2.2.1 (oTell (pn P) x w (F, B, G, dk)).2.2.2.2.2) := by
  refine ct_mk (by decide) (Nat.le_of_ble_eq_true rfl) (fun p e s m below meth c ls C hr hlocks hnm htab hP hl => ?_)
  obtain ⟨hE, hw⟩ := hP
  have hS : va_S A s.heap s.heap [] := va_S.rf
  have hl : lv_has ls 4 [(0, .ref (pS P)), (1, .int x), (2, .int w)] := hl
  have hO : Ok P F dk := hI.1
  have hz : G 4 = 0 ∨ G 4 = 1 := hI.2.1
  cases hv : vAt (pn P) x with
  | none =>
    refine lv_aload_n C.1 C.2.1 dX10_tell_0 rfl (lv_at hl 0 rfl) ?_
    refine lv_iload_n C.1 C.2.1 dX10_tell_1 rfl (lv_at hl 1 rfl) ?_
    have hM := c_X10_find l D A P F B G dk hO x
    rw [hv] at hM
    refine ct_ret (ct_V0 C hM Xp_bl (Or.inl rfl) tb_316 tb_1 ⟨Nat.le_of_ble_eq_true rfl, Nat.le_of_ble_eq_true rfl⟩ tb_313 ⟨by decide, by decide⟩ tbp_1 tb_315 (x_recvS hw) (fun U hU hW => x_post hw hU hW) (sig_code (C.2.2.2.2 _ tb_316)) (by show _ = some 1; decide +kernel) hl.1 rfl (Nat.le_of_ble_eq_true rfl) dX10_tell_2 ⟨Nat.le_of_ble_eq_true rfl, Nat.le_of_ble_eq_true rfl⟩) hS (fun _ h => h) (fun t H locs ht hvm hw _ _ hS => ?_)
    have hw := x_back hw ht hvm
    refine lv_astore_nN (lv' := [(3, .null), (0, .ref (pS P)), (1, .int (x)), (2, .int (w))]) C.1 C.2.1 dX10_tell_5 rfl hl (by decide) rfl (fun ls hl => ?_)
    refine lv_aload_nN C.1 C.2.1 dX10_tell_6 rfl (lv_at hl 0 rfl) ?_
    refine lv_ifnonnullN C.1 C.2.1 dX10_tell_7 ?_
    refine lv_bipush (v := -101) C.1 C.2.1 dX10_tell_10 (by decide) ?_
    rw [show (oTell (pn P) x w (F, B, G, dk)) = _ from (onV_n hv)]
    exact ct_i C hr hlocks rfl (fun t ht hW => x_post hw ht hW) hS (Nat.le_of_ble_eq_true rfl) (Nat.le_of_ble_eq_true rfl) dX10_tell_12
  | some j =>
    have hj : j < pn P := vAt_lt hv
    have hkj : pk P j < 9 := hO.2.1 j hj
    refine lv_aload_n C.1 C.2.1 dX10_tell_0 rfl (lv_at hl 0 rfl) ?_
    refine lv_iload_n C.1 C.2.1 dX10_tell_1 rfl (lv_at hl 1 rfl) ?_
    have hM := c_X10_find l D A P F B G dk hO x
    rw [hv] at hM
    refine ct_ret (ct_V0 C hM Xp_bl (Or.inl rfl) tb_316 tb_1 ⟨Nat.le_of_ble_eq_true rfl, Nat.le_of_ble_eq_true rfl⟩ tb_313 ⟨by decide, by decide⟩ tbp_1 tb_315 (x_recvS hw) (fun U hU hW => x_post hw hU hW) (sig_code (C.2.2.2.2 _ tb_316)) (by show _ = some 1; decide +kernel) hl.1 rfl (Nat.le_of_ble_eq_true rfl) dX10_tell_2 ⟨Nat.le_of_ble_eq_true rfl, Nat.le_of_ble_eq_true rfl⟩) hS (fun _ h => h) (fun t H locs ht hvm hw _ _ hS => ?_)
    have hw := x_back hw ht hvm
    refine lv_astore_n (lv' := [(3, .ref (pa P j)), (0, .ref (pS P)), (1, .int (x)), (2, .int (w))]) C.1 C.2.1 dX10_tell_5 rfl hl (by decide) rfl (fun ls hl => ?_)
    refine lv_aload_n C.1 C.2.1 dX10_tell_6 rfl (lv_at hl 0 rfl) ?_
    refine lv_ifnonnull (tgt := 13) C.1 C.2.1 dX10_tell_7 (by decide) ?_
    refine lv_iload_n C.1 C.2.1 dX10_tell_13 rfl (lv_at hl 3 rfl) ?_
    by_cases hs1 : w.toInt < 0
    · refine lv_tableOut (tgt := 100) C.1 C.2.1 dX10_tell_14 (Or.inl hs1) (by decide) ?_
      refine lv_bipush (v := -102) C.1 C.2.1 dX10_tell_100 (by decide) ?_
      have hno : tellF w = none := by
        have hq := fun {k : Nat} (hk : k ≤ 7) => sw_out (N := 7) (Or.inl hs1) (by decide) (w := w) (j := k) hk
        unfold tellF
        rw [if_neg (show ¬ w = 0 from hq (k := 0) (by decide)), if_neg (show ¬ w = 1 from hq (k := 1) (by decide)), if_neg (show ¬ w = 2 from hq (k := 2) (by decide)), if_neg (show ¬ w = 3 from hq (k := 3) (by decide)), if_neg (show ¬ w = 4 from hq (k := 4) (by decide)), if_neg (show ¬ w = 5 from hq (k := 5) (by decide)), if_neg (show ¬ w = 6 from hq (k := 6) (by decide)), if_neg (show ¬ w = 7 from hq (k := 7) (by decide))]
      rw [show oTell (pn P) x w (F, B, G, dk) = (0, -102, (F, B, G, dk)) from (onV_s hv).trans (by rw [hno])]
      exact ct_i C hr hlocks rfl (fun t ht hW => x_post hw ht hW) hS (Nat.le_of_ble_eq_true rfl) (Nat.le_of_ble_eq_true rfl) dX10_tell_102
    · by_cases hs2 : (7 : Int) < w.toInt
      · refine lv_tableOut (tgt := 100) C.1 C.2.1 dX10_tell_14 (Or.inr hs2) (by decide) ?_
        refine lv_bipush (v := -102) C.1 C.2.1 dX10_tell_100 (by decide) ?_
        have hno : tellF w = none := by
          have hq := fun {k : Nat} (hk : k ≤ 7) => sw_out (N := 7) (Or.inr hs2) (by decide) (w := w) (j := k) hk
          unfold tellF
          rw [if_neg (show ¬ w = 0 from hq (k := 0) (by decide)), if_neg (show ¬ w = 1 from hq (k := 1) (by decide)), if_neg (show ¬ w = 2 from hq (k := 2) (by decide)), if_neg (show ¬ w = 3 from hq (k := 3) (by decide)), if_neg (show ¬ w = 4 from hq (k := 4) (by decide)), if_neg (show ¬ w = 5 from hq (k := 5) (by decide)), if_neg (show ¬ w = 6 from hq (k := 6) (by decide)), if_neg (show ¬ w = 7 from hq (k := 7) (by decide))]
        rw [show oTell (pn P) x w (F, B, G, dk) = (0, -102, (F, B, G, dk)) from (onV_s hv).trans (by rw [hno])]
        exact ct_i C hr hlocks rfl (fun t ht hW => x_post hw ht hW) hS (Nat.le_of_ble_eq_true rfl) (Nat.le_of_ble_eq_true rfl) dX10_tell_102
      · obtain ⟨k, hk7, rfl⟩ := sw_cases (N := 7) hs1 hs2 (by decide)
        rcases (show k = 0 ∨ k = 1 ∨ k = 2 ∨ k = 3 ∨ k = 4 ∨ k = 5 ∨ k = 6 ∨ k = 7 by omega) with rfl | rfl | rfl | rfl | rfl | rfl | rfl | rfl
        · refine lv_tableIn (tgt := 60) C.1 C.2.1 dX10_tell_14 hs1 hs2 rfl (by decide) ?_
          refine lv_aload_n C.1 C.2.1 dX10_tell_60 rfl (lv_at hl 0 rfl) ?_
          refine xv_get C hw hj hkj 2 (by decide) tb_131 (Or.inl rfl) rfl dX10_tell_61 ?_
          rw [show oTell (pn P) x (nI 0) (F, B, G, dk) = (0, F j 2, (F, B, G, dk)) from onV_s hv]
          exact ct_i C hr hlocks rfl (fun t ht hW => x_post hw ht hW) hS (Nat.le_of_ble_eq_true rfl) (Nat.le_of_ble_eq_true rfl) dX10_tell_64
        · refine lv_tableIn (tgt := 65) C.1 C.2.1 dX10_tell_14 hs1 hs2 rfl (by decide) ?_
          refine lv_aload_n C.1 C.2.1 dX10_tell_65 rfl (lv_at hl 0 rfl) ?_
          refine xv_get C hw hj hkj 3 (by decide) tb_133 (Or.inl rfl) rfl dX10_tell_66 ?_
          rw [show oTell (pn P) x (nI 1) (F, B, G, dk) = (0, F j 3, (F, B, G, dk)) from onV_s hv]
          exact ct_i C hr hlocks rfl (fun t ht hW => x_post hw ht hW) hS (Nat.le_of_ble_eq_true rfl) (Nat.le_of_ble_eq_true rfl) dX10_tell_69
        · refine lv_tableIn (tgt := 70) C.1 C.2.1 dX10_tell_14 hs1 hs2 rfl (by decide) ?_
          refine lv_aload_n C.1 C.2.1 dX10_tell_70 rfl (lv_at hl 0 rfl) ?_
          refine xv_get C hw hj hkj 5 (by decide) tb_145 (Or.inl rfl) rfl dX10_tell_71 ?_
          rw [show oTell (pn P) x (nI 2) (F, B, G, dk) = (0, F j 5, (F, B, G, dk)) from onV_s hv]
          exact ct_i C hr hlocks rfl (fun t ht hW => x_post hw ht hW) hS (Nat.le_of_ble_eq_true rfl) (Nat.le_of_ble_eq_true rfl) dX10_tell_74
        · refine lv_tableIn (tgt := 75) C.1 C.2.1 dX10_tell_14 hs1 hs2 rfl (by decide) ?_
          refine lv_aload_n C.1 C.2.1 dX10_tell_75 rfl (lv_at hl 0 rfl) ?_
          refine xv_get C hw hj hkj 4 (by decide) tb_135 (Or.inl rfl) rfl dX10_tell_76 ?_
          rw [show oTell (pn P) x (nI 3) (F, B, G, dk) = (0, F j 4, (F, B, G, dk)) from onV_s hv]
          exact ct_i C hr hlocks rfl (fun t ht hW => x_post hw ht hW) hS (Nat.le_of_ble_eq_true rfl) (Nat.le_of_ble_eq_true rfl) dX10_tell_79
        · refine lv_tableIn (tgt := 80) C.1 C.2.1 dX10_tell_14 hs1 hs2 rfl (by decide) ?_
          refine lv_aload_n C.1 C.2.1 dX10_tell_80 rfl (lv_at hl 0 rfl) ?_
          refine xv_get C hw hj hkj 6 (by decide) tb_147 (Or.inl rfl) rfl dX10_tell_81 ?_
          rw [show oTell (pn P) x (nI 4) (F, B, G, dk) = (0, F j 6, (F, B, G, dk)) from onV_s hv]
          exact ct_i C hr hlocks rfl (fun t ht hW => x_post hw ht hW) hS (Nat.le_of_ble_eq_true rfl) (Nat.le_of_ble_eq_true rfl) dX10_tell_84
        · refine lv_tableIn (tgt := 85) C.1 C.2.1 dX10_tell_14 hs1 hs2 rfl (by decide) ?_
          refine lv_aload_n C.1 C.2.1 dX10_tell_85 rfl (lv_at hl 0 rfl) ?_
          refine xv_get C hw hj hkj 7 (by decide) tb_149 (Or.inl rfl) rfl dX10_tell_86 ?_
          rw [show oTell (pn P) x (nI 5) (F, B, G, dk) = (0, F j 7, (F, B, G, dk)) from onV_s hv]
          exact ct_i C hr hlocks rfl (fun t ht hW => x_post hw ht hW) hS (Nat.le_of_ble_eq_true rfl) (Nat.le_of_ble_eq_true rfl) dX10_tell_89
        · refine lv_tableIn (tgt := 90) C.1 C.2.1 dX10_tell_14 hs1 hs2 rfl (by decide) ?_
          refine lv_aload_n C.1 C.2.1 dX10_tell_90 rfl (lv_at hl 0 rfl) ?_
          refine xv_get C hw hj hkj 8 (by decide) tb_151 (Or.inl rfl) rfl dX10_tell_91 ?_
          rw [show oTell (pn P) x (nI 6) (F, B, G, dk) = (0, F j 8, (F, B, G, dk)) from onV_s hv]
          exact ct_i C hr hlocks rfl (fun t ht hW => x_post hw ht hW) hS (Nat.le_of_ble_eq_true rfl) (Nat.le_of_ble_eq_true rfl) dX10_tell_94
        · refine lv_tableIn (tgt := 95) C.1 C.2.1 dX10_tell_14 hs1 hs2 rfl (by decide) ?_
          refine lv_aload_n C.1 C.2.1 dX10_tell_95 rfl (lv_at hl 0 rfl) ?_
          refine xv_get C hw hj hkj 9 (by decide) tb_155 (Or.inl rfl) rfl dX10_tell_96 ?_
          rw [show oTell (pn P) x (nI 7) (F, B, G, dk) = (0, F j 9, (F, B, G, dk)) from onV_s hv]
          exact ct_i C hr hlocks rfl (fun t ht hW => x_post hw ht hW) hS (Nat.le_of_ble_eq_true rfl) (Nat.le_of_ble_eq_true rfl) dX10_tell_99
set_option maxHeartbeats 400000 in
set_option maxRecDepth 100000 in
/-- the vehicle at a place of the deck -/
theorem c_X10_deck (l : Launch) (D : va_G) (A : Nat → Prop) (P : SwP) (F : Nat → Nat → Int32) (B G : Nat → Int32) (dk : List Nat) (x : Int32) (hlt : l.stackTraces = false) (hI : Inv P (F, B, G, dk)) : Ct l yX10_deck (.code yX10_deck cX10_deck 3 (some .int)) ({ frames := 9, cells := 2, slots := 12, locals := 200 }) A [.ref (pS P), .int x] (fun U => Ev A U ∧ Xp D A P F B G dk U) (ocE (oDeck x (F, B, G, dk)).1 (some (.int (oDeck x (F, B, G, dk)).2.1))) (Xp D A P (oDeck x (F, B, G, dk)).2.2.1 (oDeck x (F, B, G, dk)).2.2.2.1 (oDeck x (F, B, G, dk)).2.2.2.2.1 (oDeck x (F, B, G, dk)).2.2.2.2.2) := by
  refine ct_mk (by decide) (Nat.le_of_ble_eq_true rfl) (fun p e s m below meth c ls C hr hlocks hnm htab hP hl => ?_)
  obtain ⟨hE, hw⟩ := hP
  have hS : va_S A s.heap s.heap [] := va_S.rf
  have hl : lv_has ls 3 [(0, .ref (pS P)), (1, .int x)] := hl
  have hO : Ok P F dk := hI.1
  cases hv : dkAt dk x with
  | none =>
    refine lv_aload_n C.1 C.2.1 dX10_deck_0 rfl (lv_at hl 0 rfl) ?_
    refine xs_get C hw 0 (by decide) tb_81 rfl dX10_deck_1 ?_
    refine lv_iload_n C.1 C.2.1 dX10_deck_4 rfl (lv_at hl 1 rfl) ?_
    have hM := c_X0_at l D A P F B G dk hO x
    rw [hv] at hM
    refine ct_ret (ct_V0 C hM Xp_bl (Or.inl rfl) tb_668 tb_2 ⟨Nat.le_of_ble_eq_true rfl, Nat.le_of_ble_eq_true rfl⟩ tb_665 ⟨by decide, by decide⟩ tb_667 tb_666 (x_recvB hw) (fun U hU hW => x_post hw hU hW) (sig_code (C.2.2.2.2 _ tb_668)) (by show _ = some 1; decide +kernel) hl.1 rfl (Nat.le_of_ble_eq_true rfl) dX10_deck_5 ⟨Nat.le_of_ble_eq_true rfl, Nat.le_of_ble_eq_true rfl⟩) hS (fun _ h => h) (fun t H locs ht hvm hw _ _ hS => ?_)
    have hw := x_back hw ht hvm
    refine lv_astore_nN (lv' := [(2, .null), (0, .ref (pS P)), (1, .int (x))]) C.1 C.2.1 dX10_deck_8 rfl hl (by decide) rfl (fun ls hl => ?_)
    refine lv_aload_nN C.1 C.2.1 dX10_deck_9 rfl (lv_at hl 0 rfl) ?_
    refine lv_ifnonnullN C.1 C.2.1 dX10_deck_10 ?_
    refine lv_bipush (v := -101) C.1 C.2.1 dX10_deck_13 (by decide) ?_
    rw [show (oDeck x (F, B, G, dk)) = (0, -101, (F, B, G, dk)) by unfold oDeck; rw [hv]]
    exact ct_i C hr hlocks rfl (fun t ht hW => x_post hw ht hW) hS (Nat.le_of_ble_eq_true rfl) (Nat.le_of_ble_eq_true rfl) dX10_deck_15
  | some j =>
    have hj : j < pn P := by
      unfold dkAt at hv
      by_cases q : x < 0
      · rw [if_pos q] at hv; cases hv
      · rw [if_neg q] at hv; exact (hO.v hv).1
    have hkj : pk P j < 9 := hO.2.1 j hj
    refine lv_aload_n C.1 C.2.1 dX10_deck_0 rfl (lv_at hl 0 rfl) ?_
    refine xs_get C hw 0 (by decide) tb_81 rfl dX10_deck_1 ?_
    refine lv_iload_n C.1 C.2.1 dX10_deck_4 rfl (lv_at hl 1 rfl) ?_
    have hM := c_X0_at l D A P F B G dk hO x
    rw [hv] at hM
    refine ct_ret (ct_V0 C hM Xp_bl (Or.inl rfl) tb_668 tb_2 ⟨Nat.le_of_ble_eq_true rfl, Nat.le_of_ble_eq_true rfl⟩ tb_665 ⟨by decide, by decide⟩ tb_667 tb_666 (x_recvB hw) (fun U hU hW => x_post hw hU hW) (sig_code (C.2.2.2.2 _ tb_668)) (by show _ = some 1; decide +kernel) hl.1 rfl (Nat.le_of_ble_eq_true rfl) dX10_deck_5 ⟨Nat.le_of_ble_eq_true rfl, Nat.le_of_ble_eq_true rfl⟩) hS (fun _ h => h) (fun t H locs ht hvm hw _ _ hS => ?_)
    have hw := x_back hw ht hvm
    refine lv_astore_n (lv' := [(2, .ref (pa P j)), (0, .ref (pS P)), (1, .int (x))]) C.1 C.2.1 dX10_deck_8 rfl hl (by decide) rfl (fun ls hl => ?_)
    refine lv_aload_n C.1 C.2.1 dX10_deck_9 rfl (lv_at hl 0 rfl) ?_
    refine lv_ifnonnull (tgt := 16) C.1 C.2.1 dX10_deck_10 (by decide) ?_
    refine lv_aload_n C.1 C.2.1 dX10_deck_16 rfl (lv_at hl 0 rfl) ?_
    refine xv_get C hw hj hkj 1 (by decide) tb_128 (Or.inl rfl) rfl dX10_deck_17 ?_
    rw [show (oDeck x (F, B, G, dk)) = (0, nI j, (F, B, G, dk)) by unfold oDeck; rw [hv]]
    exact ct_i C hr hlocks rfl (fun t ht hW => x_post hw ht hW) hS (Nat.le_of_ble_eq_true rfl) (Nat.le_of_ble_eq_true rfl) dX10_deck_20
set_option maxHeartbeats 400000 in
set_option maxRecDepth 100000 in
/-- BEGAN -/
theorem c_X10_began (l : Launch) (D : va_G) (A : Nat → Prop) (P : SwP) (F : Nat → Nat → Int32) (B G : Nat → Int32) (dk : List Nat) (x : Int32) (hlt : l.stackTraces = false) (hI : Inv P (F, B, G, dk)) : Ct l yX10_began (.code yX10_began cX10_began 2 (some .int)) ({ frames := 9, cells := 2, slots := 12, locals := 200 }) A [.ref (pS P), .int x] (fun U => Ev A U ∧ Xp D A P F B G dk U) (ocE (oBegan x (F, B, G, dk)).1 (some (.int (oBegan x (F, B, G, dk)).2.1))) (Xp D A P (oBegan x (F, B, G, dk)).2.2.1 (oBegan x (F, B, G, dk)).2.2.2.1 (oBegan x (F, B, G, dk)).2.2.2.2.1 (oBegan x (F, B, G, dk)).2.2.2.2.2) := by
  refine ct_mk (by decide) (Nat.le_of_ble_eq_true rfl) (fun p e s m below meth c ls C hr hlocks hnm htab hP hl => ?_)
  obtain ⟨hE, hw⟩ := hP
  have hS : va_S A s.heap s.heap [] := va_S.rf
  have hl : lv_has ls 2 [(0, .ref (pS P)), (1, .int x)] := hl
  have hO : Ok P F dk := hI.1
  have hz : G 4 = 0 ∨ G 4 = 1 := hI.2.1
  refine lv_iload_n C.1 C.2.1 dX10_began_0 rfl (lv_at hl 1 rfl) ?_
  refine lv_if_lt (tgt := 16) C.1 C.2.1 dX10_began_1 (by decide) (fun h1 => ?_) (fun h1 => ?_)
  · refine lv_bipush (v := -102) C.1 C.2.1 dX10_began_16 (by decide) ?_
    rw [show (oBegan x (F, B, G, dk)) = (0, -102, (F, B, G, dk)) by unfold oBegan; rw [if_pos h1]]
    exact ct_i C hr hlocks rfl (fun t ht hW => x_post hw ht hW) hS (Nat.le_of_ble_eq_true rfl) (Nat.le_of_ble_eq_true rfl) dX10_began_18
  · refine lv_iload_n C.1 C.2.1 dX10_began_4 rfl (lv_at hl 1 rfl) ?_
    refine lv_aload_n C.1 C.2.1 dX10_began_5 rfl (lv_at hl 0 rfl) ?_
    refine xs_get C hw 0 (by decide) tb_81 rfl dX10_began_6 ?_
    refine xb_get C hw 1 (by decide) tb_46 rfl dX10_began_9 ?_
    refine xN_len C hw dX10_began_12 ?_
    refine lv_icmp_lt (tgt := 19) C.1 C.2.1 dX10_began_13 (by decide) (fun h2 => ?_) (fun h2 => ?_)
    · refine lv_aload_n C.1 C.2.1 dX10_began_19 rfl (lv_at hl 0 rfl) ?_
      refine xs_get C hw 0 (by decide) tb_81 rfl dX10_began_20 ?_
      refine xb_get C hw 1 (by decide) tb_46 rfl dX10_began_23 ?_
      refine lv_iload_n C.1 C.2.1 dX10_began_26 rfl (lv_at hl 1 rfl) ?_
      obtain ⟨j, hj, rfl⟩ := nI_of h1
      have hj9 : j < 9 := (nI_ltI hj (by omega)).mp h2
      refine xN_ld C hw hj9 rfl dX10_began_27 ?_
      rw [show oBegan (nI j) (F, B, G, dk) = (0, B j, (F, B, G, dk)) by unfold oBegan; rw [if_neg h1, if_pos h2, nI_clamp hj]]
      exact ct_i C hr hlocks rfl (fun t ht hW => x_post hw ht hW) hS (Nat.le_of_ble_eq_true rfl) (Nat.le_of_ble_eq_true rfl) dX10_began_28
    · refine lv_bipush (v := -102) C.1 C.2.1 dX10_began_16 (by decide) ?_
      rw [show (oBegan x (F, B, G, dk)) = (0, -102, (F, B, G, dk)) by unfold oBegan; rw [if_neg h1, if_neg h2]]
      exact ct_i C hr hlocks rfl (fun t ht hW => x_post hw ht hW) hS (Nat.le_of_ble_eq_true rfl) (Nat.le_of_ble_eq_true rfl) dX10_began_18
set_option maxHeartbeats 400000 in
set_option maxRecDepth 100000 in
/-- what is counted -/
theorem c_X10_count (l : Launch) (D : va_G) (A : Nat → Prop) (P : SwP) (F : Nat → Nat → Int32) (B G : Nat → Int32) (dk : List Nat) (w : Int32) (hlt : l.stackTraces = false) (hI : Inv P (F, B, G, dk)) : Ct l yX10_count (.code yX10_count cX10_count 2 (some .int)) ({ frames := 9, cells := 2, slots := 12, locals := 200 }) A [.ref (pS P), .int w] (fun U => Ev A U ∧ Xp D A P F B G dk U) (ocE (oCount (pn P) w (F, B, G, dk)).1 (some (.int (oCount (pn P) w (F, B, G, dk)).2.1))) (Xp D A P (oCount (pn P) w (F, B, G, dk)).2.2.1 (oCount (pn P) w (F, B, G, dk)).2.2.2.1 (oCount (pn P) w (F, B, G, dk)).2.2.2.2.1 (oCount (pn P) w (F, B, G, dk)).2.2.2.2.2) := by
  refine ct_mk (by decide) (Nat.le_of_ble_eq_true rfl) (fun p e s m below meth c ls C hr hlocks hnm htab hP hl => ?_)
  obtain ⟨hE, hw⟩ := hP
  have hS : va_S A s.heap s.heap [] := va_S.rf
  have hl : lv_has ls 2 [(0, .ref (pS P)), (1, .int w)] := hl
  have hO : Ok P F dk := hI.1
  have hz : G 4 = 0 ∨ G 4 = 1 := hI.2.1
  refine lv_iload_n C.1 C.2.1 dX10_count_0 rfl (lv_at hl 1 rfl) ?_
  by_cases hs1 : w.toInt < 0
  · refine lv_tableOut (tgt := 93) C.1 C.2.1 dX10_count_1 (Or.inl hs1) (by decide) ?_
    refine lv_bipush (v := -102) C.1 C.2.1 dX10_count_93 (by decide) ?_
    have hq := fun {k : Nat} (hk : k ≤ 5) => sw_out (N := 5) (Or.inl hs1) (by decide) (w := w) (j := k) hk
    rw [show (oCount (pn P) w (F, B, G, dk)) = (0, -102, (F, B, G, dk)) by unfold oCount; rw [if_neg (show ¬ w = 0 from hq (k := 0) (by decide)), if_neg (show ¬ w = 1 from hq (k := 1) (by decide)), if_neg (show ¬ w = 2 from hq (k := 2) (by decide)), if_neg (show ¬ w = 3 from hq (k := 3) (by decide)), if_neg (show ¬ w = 4 from hq (k := 4) (by decide)), if_neg (show ¬ w = 5 from hq (k := 5) (by decide))]]
    exact ct_i C hr hlocks rfl (fun t ht hW => x_post hw ht hW) hS (Nat.le_of_ble_eq_true rfl) (Nat.le_of_ble_eq_true rfl) dX10_count_95
  · by_cases hs2 : (5 : Int) < w.toInt
    · refine lv_tableOut (tgt := 93) C.1 C.2.1 dX10_count_1 (Or.inr hs2) (by decide) ?_
      refine lv_bipush (v := -102) C.1 C.2.1 dX10_count_93 (by decide) ?_
      have hq := fun {k : Nat} (hk : k ≤ 5) => sw_out (N := 5) (Or.inr hs2) (by decide) (w := w) (j := k) hk
      rw [show (oCount (pn P) w (F, B, G, dk)) = (0, -102, (F, B, G, dk)) by unfold oCount; rw [if_neg (show ¬ w = 0 from hq (k := 0) (by decide)), if_neg (show ¬ w = 1 from hq (k := 1) (by decide)), if_neg (show ¬ w = 2 from hq (k := 2) (by decide)), if_neg (show ¬ w = 3 from hq (k := 3) (by decide)), if_neg (show ¬ w = 4 from hq (k := 4) (by decide)), if_neg (show ¬ w = 5 from hq (k := 5) (by decide))]]
      exact ct_i C hr hlocks rfl (fun t ht hW => x_post hw ht hW) hS (Nat.le_of_ble_eq_true rfl) (Nat.le_of_ble_eq_true rfl) dX10_count_95
    · obtain ⟨k, hk7, rfl⟩ := sw_cases (N := 5) hs1 hs2 (by decide)
      rcases (show k = 0 ∨ k = 1 ∨ k = 2 ∨ k = 3 ∨ k = 4 ∨ k = 5 by omega) with rfl | rfl | rfl | rfl | rfl | rfl
      · refine lv_tableIn (tgt := 40) C.1 C.2.1 dX10_count_1 hs1 hs2 rfl (by decide) ?_
        refine lv_aload_n C.1 C.2.1 dX10_count_40 rfl (lv_at hl 0 rfl) ?_
        refine xs_get C hw 2 (by decide) tb_83 rfl dX10_count_41 ?_
        rw [show (oCount (pn P) (nI 0) (F, B, G, dk)) = (0, nI (pn P), (F, B, G, dk)) from rfl]
        exact ct_i C hr hlocks rfl (fun t ht hW => x_post hw ht hW) hS (Nat.le_of_ble_eq_true rfl) (Nat.le_of_ble_eq_true rfl) dX10_count_44
      · refine lv_tableIn (tgt := 45) C.1 C.2.1 dX10_count_1 hs1 hs2 rfl (by decide) ?_
        refine lv_aload_n C.1 C.2.1 dX10_count_45 rfl (lv_at hl 0 rfl) ?_
        refine xs_get C hw 0 (by decide) tb_81 rfl dX10_count_46 ?_
        refine xb_get C hw 2 (by decide) tb_49 rfl dX10_count_49 ?_
        rw [show (oCount (pn P) (nI 1) (F, B, G, dk)) = (0, nI dk.length, (F, B, G, dk)) from rfl]
        exact ct_i C hr hlocks rfl (fun t ht hW => x_post hw ht hW) hS (Nat.le_of_ble_eq_true rfl) (Nat.le_of_ble_eq_true rfl) dX10_count_52
      · refine lv_tableIn (tgt := 53) C.1 C.2.1 dX10_count_1 hs1 hs2 rfl (by decide) ?_
        refine lv_aload_n C.1 C.2.1 dX10_count_53 rfl (lv_at hl 0 rfl) ?_
        refine xs_get C hw 0 (by decide) tb_81 rfl dX10_count_54 ?_
        refine xb_get C hw 3 (by decide) tb_53 rfl dX10_count_57 ?_
        rw [show (oCount (pn P) (nI 2) (F, B, G, dk)) = (0, G 3, (F, B, G, dk)) from rfl]
        exact ct_i C hr hlocks rfl (fun t ht hW => x_post hw ht hW) hS (Nat.le_of_ble_eq_true rfl) (Nat.le_of_ble_eq_true rfl) dX10_count_60
      · refine lv_tableIn (tgt := 61) C.1 C.2.1 dX10_count_1 hs1 hs2 rfl (by decide) ?_
        refine lv_aload_n C.1 C.2.1 dX10_count_61 rfl (lv_at hl 0 rfl) ?_
        refine xs_get C hw 0 (by decide) tb_81 rfl dX10_count_62 ?_
        refine xb_get C hw 4 (by decide) tb_57 rfl dX10_count_65 ?_
        refine lv_if_eq (tgt := 75) C.1 C.2.1 dX10_count_68 (by decide) (fun h1 => ?_) (fun h1 => ?_)
        · refine lv_iconst (v := 0) C.1 C.2.1 dX10_count_75 (by decide) ?_
          rw [show (oCount (pn P) (nI 3) (F, B, G, dk)) = (0, 0, (F, B, G, dk)) from congrArg (fun v : Int32 => ((0, v, (F, B, G, dk)) : R3)) (if_pos h1)]
          exact ct_i C hr hlocks rfl (fun t ht hW => x_post hw ht hW) hS (Nat.le_of_ble_eq_true rfl) (Nat.le_of_ble_eq_true rfl) dX10_count_76
        · refine lv_iconst (v := 1) C.1 C.2.1 dX10_count_71 (by decide) ?_
          refine lv_goto (tgt := 76) C.1 C.2.1 dX10_count_72 (by decide) ?_
          rw [show (oCount (pn P) (nI 3) (F, B, G, dk)) = (0, 1, (F, B, G, dk)) from congrArg (fun v : Int32 => ((0, v, (F, B, G, dk)) : R3)) (if_neg h1)]
          exact ct_i C hr hlocks rfl (fun t ht hW => x_post hw ht hW) hS (Nat.le_of_ble_eq_true rfl) (Nat.le_of_ble_eq_true rfl) dX10_count_76
      · refine lv_tableIn (tgt := 77) C.1 C.2.1 dX10_count_1 hs1 hs2 rfl (by decide) ?_
        refine lv_aload_n C.1 C.2.1 dX10_count_77 rfl (lv_at hl 0 rfl) ?_
        refine xs_get C hw 0 (by decide) tb_81 rfl dX10_count_78 ?_
        refine xb_get C hw 5 (by decide) tb_60 rfl dX10_count_81 ?_
        rw [show (oCount (pn P) (nI 4) (F, B, G, dk)) = (0, G 5, (F, B, G, dk)) from rfl]
        exact ct_i C hr hlocks rfl (fun t ht hW => x_post hw ht hW) hS (Nat.le_of_ble_eq_true rfl) (Nat.le_of_ble_eq_true rfl) dX10_count_84
      · refine lv_tableIn (tgt := 85) C.1 C.2.1 dX10_count_1 hs1 hs2 rfl (by decide) ?_
        refine lv_aload_n C.1 C.2.1 dX10_count_85 rfl (lv_at hl 0 rfl) ?_
        refine xs_get C hw 0 (by decide) tb_81 rfl dX10_count_86 ?_
        refine xb_get C hw 6 (by decide) tb_63 rfl dX10_count_89 ?_
        rw [show (oCount (pn P) (nI 5) (F, B, G, dk)) = (0, G 6, (F, B, G, dk)) from rfl]
        exact ct_i C hr hlocks rfl (fun t ht hW => x_post hw ht hW) hS (Nat.le_of_ble_eq_true rfl) (Nat.le_of_ble_eq_true rfl) dX10_count_92
set_option maxHeartbeats 400000 in
set_option maxRecDepth 100000 in
/-- it swings open, or shuts -/
theorem c_X10_swing (l : Launch) (D : va_G) (A : Nat → Prop) (P : SwP) (F : Nat → Nat → Int32) (B G : Nat → Int32) (dk : List Nat) (b : Int32) (hb : b = 0 ∨ b = 1) (hlt : l.stackTraces = false) (hI : Inv P (F, B, G, dk)) : Ct l yX10_swing (.code yX10_swing cX10_swing 3 (some .int)) ({ frames := 9, cells := 2, slots := 12, locals := 200 }) A [.ref (pS P), .int b] (fun U => Ev A U ∧ Xp D A P F B G dk U) (ocE (oSwing b (F, B, G, dk)).1 (some (.int (oSwing b (F, B, G, dk)).2.1))) (Xp D A P (oSwing b (F, B, G, dk)).2.2.1 (oSwing b (F, B, G, dk)).2.2.2.1 (oSwing b (F, B, G, dk)).2.2.2.2.1 (oSwing b (F, B, G, dk)).2.2.2.2.2) := by
  refine ct_mk (by decide) (Nat.le_of_ble_eq_true rfl) (fun p e s m below meth c ls C hr hlocks hnm htab hP hl => ?_)
  obtain ⟨hE, hw⟩ := hP
  have hS : va_S A s.heap s.heap [] := va_S.rf
  have hl : lv_has ls 3 [(0, .ref (pS P)), (1, .int b)] := hl
  have hO : Ok P F dk := hI.1
  refine lv_iload_n C.1 C.2.1 dX10_swing_0 rfl (lv_at hl 1 rfl) ?_
  refine lv_if_eq (tgt := 17) C.1 C.2.1 dX10_swing_1 (by decide) (fun h1 => ?_) (fun h1 => ?_)
  · refine lv_iload_n C.1 C.2.1 dX10_swing_17 rfl (lv_at hl 1 rfl) ?_
    refine lv_aload_n C.1 C.2.1 dX10_swing_18 rfl (lv_at hl 0 rfl) ?_
    refine xs_get C hw 0 (by decide) tb_81 rfl dX10_swing_19 ?_
    refine xb_get C hw 4 (by decide) tb_57 rfl dX10_swing_22 ?_
    refine lv_icmp_ne (tgt := 32) C.1 C.2.1 dX10_swing_25 (by decide) (fun h2 => ?_) (fun h2 => ?_)
    · refine lv_iconst (v := 0) C.1 C.2.1 dX10_swing_32 (by decide) ?_
      refine lv_istore_n (lv' := [(2, .int (0)), (0, .ref (pS P)), (1, .int (b))]) C.1 C.2.1 dX10_swing_33 rfl hl (by decide) rfl (fun ls hl => ?_)
      refine lv_aload_n C.1 C.2.1 dX10_swing_34 rfl (lv_at hl 1 rfl) ?_
      refine xs_get C hw 0 (by decide) tb_81 rfl dX10_swing_35 ?_
      refine lv_iload_n C.1 C.2.1 dX10_swing_38 rfl (lv_at hl 2 rfl) ?_
      refine lv_if_ne (tgt := 46) C.1 C.2.1 dX10_swing_39 (by decide) (fun h3 => ?_) (fun h3 => ?_)
      · refine lv_iconst (v := 0) C.1 C.2.1 dX10_swing_46 (by decide) ?_
        refine xb_putz C hw hS tb_57 (by decide) dX10_swing_47 (fun H locs hw hS => ?_)
        refine lv_iload_n C.1 C.2.1 dX10_swing_50 rfl (lv_at hl 0 rfl) ?_
        refine lv_if_eq (tgt := 58) C.1 C.2.1 dX10_swing_51 (by decide) (fun h4 => ?_) (fun h4 => ?_)
        · refine lv_iconst (v := 0) C.1 C.2.1 dX10_swing_58 (by decide) ?_
          exact absurd h1 h3
        · refine lv_iconst (v := 1) C.1 C.2.1 dX10_swing_54 (by decide) ?_
          refine lv_goto (tgt := 59) C.1 C.2.1 dX10_swing_55 (by decide) ?_
          exact absurd rfl h4
      · refine lv_iconst (v := 1) C.1 C.2.1 dX10_swing_42 (by decide) ?_
        refine lv_goto (tgt := 47) C.1 C.2.1 dX10_swing_43 (by decide) ?_
        refine xb_putz C hw hS tb_57 (by decide) dX10_swing_47 (fun H locs hw hS => ?_)
        refine lv_iload_n C.1 C.2.1 dX10_swing_50 rfl (lv_at hl 0 rfl) ?_
        refine lv_if_eq (tgt := 58) C.1 C.2.1 dX10_swing_51 (by decide) (fun h4 => ?_) (fun h4 => ?_)
        · refine lv_iconst (v := 0) C.1 C.2.1 dX10_swing_58 (by decide) ?_
          rw [show (oSwing b (F, B, G, dk)) = (0, 0, F, B, upd G 4 1, dk) from (if_neg (fun q => q.1 h1)).trans (by rw [if_neg h2, if_pos h3])]
          exact ct_i C hr hlocks rfl (fun t ht hW => x_post hw ht hW) hS (Nat.le_of_ble_eq_true rfl) (Nat.le_of_ble_eq_true rfl) dX10_swing_59
        · refine lv_iconst (v := 1) C.1 C.2.1 dX10_swing_54 (by decide) ?_
          refine lv_goto (tgt := 59) C.1 C.2.1 dX10_swing_55 (by decide) ?_
          exact absurd rfl h4
    · refine lv_iconst (v := 1) C.1 C.2.1 dX10_swing_28 (by decide) ?_
      refine lv_goto (tgt := 33) C.1 C.2.1 dX10_swing_29 (by decide) ?_
      refine lv_istore_n (lv' := [(2, .int (1)), (0, .ref (pS P)), (1, .int (b))]) C.1 C.2.1 dX10_swing_33 rfl hl (by decide) rfl (fun ls hl => ?_)
      refine lv_aload_n C.1 C.2.1 dX10_swing_34 rfl (lv_at hl 1 rfl) ?_
      refine xs_get C hw 0 (by decide) tb_81 rfl dX10_swing_35 ?_
      refine lv_iload_n C.1 C.2.1 dX10_swing_38 rfl (lv_at hl 2 rfl) ?_
      refine lv_if_ne (tgt := 46) C.1 C.2.1 dX10_swing_39 (by decide) (fun h3 => ?_) (fun h3 => ?_)
      · refine lv_iconst (v := 0) C.1 C.2.1 dX10_swing_46 (by decide) ?_
        refine xb_putz C hw hS tb_57 (by decide) dX10_swing_47 (fun H locs hw hS => ?_)
        refine lv_iload_n C.1 C.2.1 dX10_swing_50 rfl (lv_at hl 0 rfl) ?_
        refine lv_if_eq (tgt := 58) C.1 C.2.1 dX10_swing_51 (by decide) (fun h4 => ?_) (fun h4 => ?_)
        · refine lv_iconst (v := 0) C.1 C.2.1 dX10_swing_58 (by decide) ?_
          exact absurd h4 (by decide)
        · refine lv_iconst (v := 1) C.1 C.2.1 dX10_swing_54 (by decide) ?_
          refine lv_goto (tgt := 59) C.1 C.2.1 dX10_swing_55 (by decide) ?_
          exact absurd h1 h3
      · refine lv_iconst (v := 1) C.1 C.2.1 dX10_swing_42 (by decide) ?_
        refine lv_goto (tgt := 47) C.1 C.2.1 dX10_swing_43 (by decide) ?_
        refine xb_putz C hw hS tb_57 (by decide) dX10_swing_47 (fun H locs hw hS => ?_)
        refine lv_iload_n C.1 C.2.1 dX10_swing_50 rfl (lv_at hl 0 rfl) ?_
        refine lv_if_eq (tgt := 58) C.1 C.2.1 dX10_swing_51 (by decide) (fun h4 => ?_) (fun h4 => ?_)
        · refine lv_iconst (v := 0) C.1 C.2.1 dX10_swing_58 (by decide) ?_
          exact absurd h4 (by decide)
        · refine lv_iconst (v := 1) C.1 C.2.1 dX10_swing_54 (by decide) ?_
          refine lv_goto (tgt := 59) C.1 C.2.1 dX10_swing_55 (by decide) ?_
          rw [show (oSwing b (F, B, G, dk)) = (0, 1, F, B, upd G 4 1, dk) from (if_neg (fun q => q.1 h1)).trans (by rw [if_pos h2, if_pos h3])]
          exact ct_i C hr hlocks rfl (fun t ht hW => x_post hw ht hW) hS (Nat.le_of_ble_eq_true rfl) (Nat.le_of_ble_eq_true rfl) dX10_swing_59
  · refine lv_aload_n C.1 C.2.1 dX10_swing_4 rfl (lv_at hl 0 rfl) ?_
    refine xs_get C hw 0 (by decide) tb_81 rfl dX10_swing_5 ?_
    refine xb_get C hw 2 (by decide) tb_49 rfl dX10_swing_8 ?_
    refine lv_if_le (tgt := 17) C.1 C.2.1 dX10_swing_11 (by decide) (fun h2 => ?_) (fun h2 => ?_)
    · refine lv_iload_n C.1 C.2.1 dX10_swing_17 rfl (lv_at hl 1 rfl) ?_
      refine lv_aload_n C.1 C.2.1 dX10_swing_18 rfl (lv_at hl 0 rfl) ?_
      refine xs_get C hw 0 (by decide) tb_81 rfl dX10_swing_19 ?_
      refine xb_get C hw 4 (by decide) tb_57 rfl dX10_swing_22 ?_
      refine lv_icmp_ne (tgt := 32) C.1 C.2.1 dX10_swing_25 (by decide) (fun h3 => ?_) (fun h3 => ?_)
      · refine lv_iconst (v := 0) C.1 C.2.1 dX10_swing_32 (by decide) ?_
        refine lv_istore_n (lv' := [(2, .int (0)), (0, .ref (pS P)), (1, .int (b))]) C.1 C.2.1 dX10_swing_33 rfl hl (by decide) rfl (fun ls hl => ?_)
        refine lv_aload_n C.1 C.2.1 dX10_swing_34 rfl (lv_at hl 1 rfl) ?_
        refine xs_get C hw 0 (by decide) tb_81 rfl dX10_swing_35 ?_
        refine lv_iload_n C.1 C.2.1 dX10_swing_38 rfl (lv_at hl 2 rfl) ?_
        refine lv_if_ne (tgt := 46) C.1 C.2.1 dX10_swing_39 (by decide) (fun h4 => ?_) (fun h4 => ?_)
        · refine lv_iconst (v := 0) C.1 C.2.1 dX10_swing_46 (by decide) ?_
          refine xb_putz C hw hS tb_57 (by decide) dX10_swing_47 (fun H locs hw hS => ?_)
          refine lv_iload_n C.1 C.2.1 dX10_swing_50 rfl (lv_at hl 0 rfl) ?_
          refine lv_if_eq (tgt := 58) C.1 C.2.1 dX10_swing_51 (by decide) (fun h5 => ?_) (fun h5 => ?_)
          · refine lv_iconst (v := 0) C.1 C.2.1 dX10_swing_58 (by decide) ?_
            rw [show (oSwing b (F, B, G, dk)) = (0, 0, F, B, upd G 4 0, dk) from (if_neg (fun q => q.2 (le0_nil h2 hO.len))).trans (by rw [if_neg h3, if_neg h4])]
            exact ct_i C hr hlocks rfl (fun t ht hW => x_post hw ht hW) hS (Nat.le_of_ble_eq_true rfl) (Nat.le_of_ble_eq_true rfl) dX10_swing_59
          · refine lv_iconst (v := 1) C.1 C.2.1 dX10_swing_54 (by decide) ?_
            refine lv_goto (tgt := 59) C.1 C.2.1 dX10_swing_55 (by decide) ?_
            exact absurd rfl h5
        · refine lv_iconst (v := 1) C.1 C.2.1 dX10_swing_42 (by decide) ?_
          refine lv_goto (tgt := 47) C.1 C.2.1 dX10_swing_43 (by decide) ?_
          refine xb_putz C hw hS tb_57 (by decide) dX10_swing_47 (fun H locs hw hS => ?_)
          refine lv_iload_n C.1 C.2.1 dX10_swing_50 rfl (lv_at hl 0 rfl) ?_
          refine lv_if_eq (tgt := 58) C.1 C.2.1 dX10_swing_51 (by decide) (fun h5 => ?_) (fun h5 => ?_)
          · refine lv_iconst (v := 0) C.1 C.2.1 dX10_swing_58 (by decide) ?_
            exact absurd h4 h1
          · refine lv_iconst (v := 1) C.1 C.2.1 dX10_swing_54 (by decide) ?_
            refine lv_goto (tgt := 59) C.1 C.2.1 dX10_swing_55 (by decide) ?_
            exact absurd rfl h5
      · refine lv_iconst (v := 1) C.1 C.2.1 dX10_swing_28 (by decide) ?_
        refine lv_goto (tgt := 33) C.1 C.2.1 dX10_swing_29 (by decide) ?_
        refine lv_istore_n (lv' := [(2, .int (1)), (0, .ref (pS P)), (1, .int (b))]) C.1 C.2.1 dX10_swing_33 rfl hl (by decide) rfl (fun ls hl => ?_)
        refine lv_aload_n C.1 C.2.1 dX10_swing_34 rfl (lv_at hl 1 rfl) ?_
        refine xs_get C hw 0 (by decide) tb_81 rfl dX10_swing_35 ?_
        refine lv_iload_n C.1 C.2.1 dX10_swing_38 rfl (lv_at hl 2 rfl) ?_
        refine lv_if_ne (tgt := 46) C.1 C.2.1 dX10_swing_39 (by decide) (fun h4 => ?_) (fun h4 => ?_)
        · refine lv_iconst (v := 0) C.1 C.2.1 dX10_swing_46 (by decide) ?_
          refine xb_putz C hw hS tb_57 (by decide) dX10_swing_47 (fun H locs hw hS => ?_)
          refine lv_iload_n C.1 C.2.1 dX10_swing_50 rfl (lv_at hl 0 rfl) ?_
          refine lv_if_eq (tgt := 58) C.1 C.2.1 dX10_swing_51 (by decide) (fun h5 => ?_) (fun h5 => ?_)
          · refine lv_iconst (v := 0) C.1 C.2.1 dX10_swing_58 (by decide) ?_
            exact absurd h5 (by decide)
          · refine lv_iconst (v := 1) C.1 C.2.1 dX10_swing_54 (by decide) ?_
            refine lv_goto (tgt := 59) C.1 C.2.1 dX10_swing_55 (by decide) ?_
            rw [show (oSwing b (F, B, G, dk)) = (0, 1, F, B, upd G 4 0, dk) from (if_neg (fun q => q.2 (le0_nil h2 hO.len))).trans (by rw [if_pos h3, if_neg h4])]
            exact ct_i C hr hlocks rfl (fun t ht hW => x_post hw ht hW) hS (Nat.le_of_ble_eq_true rfl) (Nat.le_of_ble_eq_true rfl) dX10_swing_59
        · refine lv_iconst (v := 1) C.1 C.2.1 dX10_swing_42 (by decide) ?_
          refine lv_goto (tgt := 47) C.1 C.2.1 dX10_swing_43 (by decide) ?_
          refine xb_putz C hw hS tb_57 (by decide) dX10_swing_47 (fun H locs hw hS => ?_)
          refine lv_iload_n C.1 C.2.1 dX10_swing_50 rfl (lv_at hl 0 rfl) ?_
          refine lv_if_eq (tgt := 58) C.1 C.2.1 dX10_swing_51 (by decide) (fun h5 => ?_) (fun h5 => ?_)
          · refine lv_iconst (v := 0) C.1 C.2.1 dX10_swing_58 (by decide) ?_
            exact absurd h5 (by decide)
          · refine lv_iconst (v := 1) C.1 C.2.1 dX10_swing_54 (by decide) ?_
            refine lv_goto (tgt := 59) C.1 C.2.1 dX10_swing_55 (by decide) ?_
            exact absurd h4 h1
    · refine lv_bipush (v := -103) C.1 C.2.1 dX10_swing_14 (by decide) ?_
      rw [show (oSwing b (F, B, G, dk)) = (0, -103, (F, B, G, dk)) from if_pos ⟨h1, fun q => h2 (by rw [show dk = [] from q]; exact Int32.le_refl 0)⟩]
      exact ct_i C hr hlocks rfl (fun t ht hW => x_post hw ht hW) hS (Nat.le_of_ble_eq_true rfl) (Nat.le_of_ble_eq_true rfl) dX10_swing_16
