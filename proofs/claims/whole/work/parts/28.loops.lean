set_option maxHeartbeats 400000 in
set_option maxRecDepth 100000 in
/-- all on the DECK LEAVE -/
theorem c_X10_clear (l : Launch) (D : va_G) (A : Nat → Prop) (P : SwP) (F : Nat → Nat → Int32) (B G : Nat → Int32) (dk : List Nat) (hlt : l.stackTraces = false) (hI : Inv P (F, B, G, dk)) : Ct l yX10_clear (.code yX10_clear cX10_clear 4 (some .int)) ({ frames := 9, cells := 2, slots := 12, locals := 200 }) A [.ref (pS P)] (fun U => Ev A U ∧ Xp D A P F B G dk U) (ocE (oClear (pk P) (F, B, G, dk)).1 (some (.int (oClear (pk P) (F, B, G, dk)).2.1))) (Xp D A P (oClear (pk P) (F, B, G, dk)).2.2.1 (oClear (pk P) (F, B, G, dk)).2.2.2.1 (oClear (pk P) (F, B, G, dk)).2.2.2.2.1 (oClear (pk P) (F, B, G, dk)).2.2.2.2.2) := by
  refine ct_mk (by decide) (Nat.le_of_ble_eq_true rfl) (fun p e s m below meth c ls C hr hlocks hnm htab hP hl => ?_)
  obtain ⟨hE, hw⟩ := hP
  have hS : va_S A s.heap s.heap [] := va_S.rf
  have hl : lv_has ls 4 [(0, .ref (pS P))] := hl
  have hL : dk.length ≤ 24 := hI.1.len
  have loop : ∀ (k j : Nat), j + k = dk.length → ∀ (x : Int32) (F1 : Nat → Nat → Int32) (B1 G1 : Nat → Int32) (d1 : List Nat), x = nI j → d1.length = k → Inv P (F1, B1, G1, d1) → clr (pk P) k (F1, B1, G1, d1) = clr (pk P) dk.length (F, B, G, dk) → ∀ (H : Heap) (locs : List Loc), XwR D A P F1 B1 G1 (nI d1.length) (dfd P d1) s H → va_S A s.heap H locs → ∀ ls : Array Slot, lv_has ls 4 [(2, .int x), (1, .int (nI dk.length)), (0, .ref (pS P))] → W p l e ({ frames := 9, cells := 2, slots := 12, locals := 200 }) s m ([.ref (pS P)] : List Value).toArray below meth c H locs 0 0 (CtQ below s ([.ref (pS P)] : List Value).toArray ({ frames := 9, cells := 2, slots := 12, locals := 200 }) A (ocE (oClear (pk P) (F, B, G, dk)).1 (some (.int (oClear (pk P) (F, B, G, dk)).2.1))) (Xp D A P (oClear (pk P) (F, B, G, dk)).2.2.1 (oClear (pk P) (F, B, G, dk)).2.2.2.1 (oClear (pk P) (F, B, G, dk)).2.2.2.2.1 (oClear (pk P) (F, B, G, dk)).2.2.2.2.2)) (F0 m 10 ls []) := by
    intro k
    induction k with
    | zero =>
      intro j hj x F1 B1 G1 d1 hx hd hI1 hc H locs hw hS ls hl
      have hj : j = dk.length := by omega
      refine lv_iload_n C.1 C.2.1 dX10_clear_10 rfl (lv_at hl 0 rfl) ?_
      refine lv_iload_n C.1 C.2.1 dX10_clear_11 rfl (lv_at hl 1 rfl) ?_
      refine lv_icmp_ge (tgt := 38) C.1 C.2.1 dX10_clear_12 (by decide) (fun h1 => ?_) (fun h1 => ?_)
      · refine lv_iload_n C.1 C.2.1 dX10_clear_38 rfl (lv_at hl 1 rfl) ?_
        have hc : (F1, B1, G1, d1) = clr (pk P) dk.length (F, B, G, dk) := hc
        rw [show (oClear (pk P) (F, B, G, dk)) = (0, nI dk.length, F1, B1, G1, d1) by unfold oClear; rw [hc]]
        exact ct_i C hr hlocks rfl (fun t ht hW => x_post hw ht hW) hS (Nat.le_of_ble_eq_true rfl) (Nat.le_of_ble_eq_true rfl) dX10_clear_39
      · exact absurd (by rw [hx, hj]; exact Int32.le_refl _) h1
    | succ k ih =>
      intro j hj x F1 B1 G1 d1 hx hd hI1 hc H locs hw hS ls hl
      cases d1 with
      | nil => exact absurd hd (by simp)
      | cons v t1 =>
        have hO1 : Ok P F1 (v :: t1) := hI1.1
        have hv : v < pn P := hO1.2.2.2.1 v List.mem_cons_self
        have hkv : pk P v < 9 := hO1.2.1 v hv
        refine lv_iload_n C.1 C.2.1 dX10_clear_10 rfl (lv_at hl 0 rfl) ?_
        refine lv_iload_n C.1 C.2.1 dX10_clear_11 rfl (lv_at hl 1 rfl) ?_
        refine lv_icmp_ge (tgt := 38) C.1 C.2.1 dX10_clear_12 (by decide) (fun h1 => ?_) (fun h1 => ?_)
        · exact absurd (by rw [hx] at h1; exact h1) (nI_ge (a := j) (b := dk.length) (by omega) (by omega))
        · refine lv_aload_n C.1 C.2.1 dX10_clear_15 rfl (lv_at hl 2 rfl) ?_
          refine xs_get C hw 0 (by decide) tb_81 rfl dX10_clear_16 ?_
          refine lv_iconst (v := 0) C.1 C.2.1 dX10_clear_19 (by decide) ?_
          have hM := c_X0_at l D A P F1 B1 G1 (v :: t1) hO1 0
          rw [show dkAt (v :: t1) 0 = some v from rfl] at hM
          refine ct_ret (ct_V0 C hM Xp_bl (Or.inl rfl) tb_668 tb_2 ⟨Nat.le_of_ble_eq_true rfl, Nat.le_of_ble_eq_true rfl⟩ tb_665 ⟨by decide, by decide⟩ tb_667 tb_666 (x_recvB hw) (fun U hU hW => x_post hw hU hW) (sig_code (C.2.2.2.2 _ tb_668)) (by show _ = some 1; decide +kernel) hl.1 rfl (Nat.le_of_ble_eq_true rfl) dX10_clear_20 ⟨Nat.le_of_ble_eq_true rfl, Nat.le_of_ble_eq_true rfl⟩) hS (fun _ h => h) (fun t H locs ht hvm hw _ _ hS => ?_)
          have hw := x_back hw ht hvm
          refine lv_astore_n (lv' := [(3, .ref (pa P v)), (2, .int (x)), (1, .int (nI dk.length)), (0, .ref (pS P))]) C.1 C.2.1 dX10_clear_23 rfl hl (by decide) rfl (fun ls hl => ?_)
          refine lv_aload_n C.1 C.2.1 dX10_clear_24 rfl (lv_at hl 0 rfl) ?_
          refine lv_ifnull C.1 C.2.1 dX10_clear_25 ?_
          refine lv_aload_n C.1 C.2.1 dX10_clear_28 rfl (lv_at hl 0 rfl) ?_
          refine ct_ret (v_leave C hw hv hkv hO1 (hE.2.1) tb_380 hl.1 dX10_clear_29 ⟨Nat.le_of_ble_eq_true rfl, Nat.le_of_ble_eq_true rfl⟩ (Nat.le_of_ble_eq_true rfl) ⟨Nat.le_of_ble_eq_true rfl, Nat.le_of_ble_eq_true rfl⟩) hS (fun _ h => h) (fun t H locs ht hvm hw _ _ hS => ?_)
          have hw := x_back hw ht hvm
          obtain ⟨x1, ex1⟩ : ∃ z : Int32, z = x + 1 := ⟨_, rfl⟩
          refine lv_iinc (v := x1) (lv' := [(2, .int (x1)), (3, .ref (pa P v)), (1, .int (nI dk.length)), (0, .ref (pS P))]) C.1 C.2.1 dX10_clear_32 hl (k := 1) rfl (by rw [ex1]; rfl) (by decide) rfl (fun ls hl => ?_)
          refine lv_goto (tgt := 10) C.1 C.2.1 dX10_clear_35 (by decide) ?_
          exact ih (j + 1) (by omega) x1 (lR (pk P) v (F1, B1, G1, v :: t1)).1 (lR (pk P) v (F1, B1, G1, v :: t1)).2.1 (lR (pk P) v (F1, B1, G1, v :: t1)).2.2.1 (lR (pk P) v (F1, B1, G1, v :: t1)).2.2.2 (by rw [ex1, hx]; exact nI_1 j) (by rw [lR_dk]; simp at hd ⊢; exact hd) (lR_inv hI1 hv) hc H locs hw hS ls (lv_sub hl [0, 2, 3] rfl)
  refine lv_aload_n C.1 C.2.1 dX10_clear_0 rfl (lv_at hl 0 rfl) ?_
  refine xs_get C hw 0 (by decide) tb_81 rfl dX10_clear_1 ?_
  refine xb_get C hw 2 (by decide) tb_49 rfl dX10_clear_4 ?_
  refine lv_istore_n (lv' := [(1, .int (nI dk.length)), (0, .ref (pS P))]) C.1 C.2.1 dX10_clear_7 rfl hl (by decide) rfl (fun ls hl => ?_)
  refine lv_iconst (v := 0) C.1 C.2.1 dX10_clear_8 (by decide) ?_
  refine lv_istore_n (lv' := [(2, .int (0)), (1, .int (nI dk.length)), (0, .ref (pS P))]) C.1 C.2.1 dX10_clear_9 rfl hl (by decide) rfl (fun ls hl => ?_)
  exact loop dk.length 0 (by omega) 0 F B G dk nI_0.symm rfl hI rfl _ _ hw hS ls hl
set_option maxHeartbeats 400000 in
set_option maxRecDepth 100000 in
/-- all ashore ENTER, by numbers -/
theorem c_X10_rush (l : Launch) (D : va_G) (A : Nat → Prop) (P : SwP) (F : Nat → Nat → Int32) (B G : Nat → Int32) (dk : List Nat) (h : Int32) (hlt : l.stackTraces = false) (hI : Inv P (F, B, G, dk)) : Ct l yX10_rush (.codeWith yX10_rush cX10_rush 6 (some .int) [((47 : Nat), (56 : Nat), (59 : Nat), (82 : Nat)), ((47 : Nat), (56 : Nat), (64 : Nat), (84 : Nat))]) ({ frames := 9, cells := 48, slots := 288, locals := 200 }) A [.ref (pS P), .int h] (fun U => Ev A U ∧ Xp D A P F B G dk U) (ocE (oRush (pk P) (pn P) h (F, B, G, dk)).1 (some (.int (oRush (pk P) (pn P) h (F, B, G, dk)).2.1))) (Xp D A P (oRush (pk P) (pn P) h (F, B, G, dk)).2.2.1 (oRush (pk P) (pn P) h (F, B, G, dk)).2.2.2.1 (oRush (pk P) (pn P) h (F, B, G, dk)).2.2.2.2.1 (oRush (pk P) (pn P) h (F, B, G, dk)).2.2.2.2.2) := by
  refine ct_mkH (by decide) (Nat.le_of_ble_eq_true rfl) (fun p e s m below meth c ls C hr hlocks htab hP hl => ?_)
  obtain ⟨hE, hw⟩ := hP
  have hS : va_S A s.heap s.heap [] := va_S.rf
  have hl : lv_has ls 6 [(0, .ref (pS P)), (1, .int h)] := hl
  have hn24 := hI.1.1
  have loop : outs h 0 23 = false → ∀ (k j : Nat), j + k = 24 → ∀ (x y : Int32) (F1 : Nat → Nat → Int32) (B1 G1 : Nat → Int32) (d1 : List Nat), x = nI j → Inv P (F1, B1, G1, d1) → rsh (pk P) h (pn P - j) j y (F1, B1, G1, d1) = rsh (pk P) h (pn P) 0 0 (F, B, G, dk) → ∀ (H : Heap) (locs : List Loc), XwR D A P F1 B1 G1 (nI d1.length) (dfd P d1) s H → va_S A s.heap H locs → ∀ (cells slots : Nat), cells + 2 * k ≤ 48 → slots + 12 * k ≤ 288 → ∀ ls : Array Slot, lv_has ls 6 [(3, .int x), (2, .int y), (0, .ref (pS P)), (1, .int h)] → W p l e ({ frames := 9, cells := 48, slots := 288, locals := 200 }) s m ([.ref (pS P), .int h] : List Value).toArray below meth c H locs cells slots (CtQ below s ([.ref (pS P), .int h] : List Value).toArray ({ frames := 9, cells := 48, slots := 288, locals := 200 }) A (ocE (oRush (pk P) (pn P) h (F, B, G, dk)).1 (some (.int (oRush (pk P) (pn P) h (F, B, G, dk)).2.1))) (Xp D A P (oRush (pk P) (pn P) h (F, B, G, dk)).2.2.1 (oRush (pk P) (pn P) h (F, B, G, dk)).2.2.2.1 (oRush (pk P) (pn P) h (F, B, G, dk)).2.2.2.2.1 (oRush (pk P) (pn P) h (F, B, G, dk)).2.2.2.2.2)) (F0 m 17 ls []) := by
    intro ho k
    induction k with
    | zero =>
      intro j hj x y F1 B1 G1 d1 hx hI1 hc H locs hw hS cells slots hcl hsl ls hl
      have hj : j = 24 := by omega
      subst hj
      rw [show pn P - 24 = 0 by omega] at hc
      refine lv_iload_n C.1 C.2.1 dX10_rush_17 rfl (lv_at hl 0 rfl) ?_
      refine lv_aload_n C.1 C.2.1 dX10_rush_18 rfl (lv_at hl 2 rfl) ?_
      refine xs_get C hw 1 (by decide) tb_82 rfl dX10_rush_19 ?_
      refine xV_len C hw dX10_rush_22 ?_
      refine lv_icmp_ge (tgt := 72) C.1 C.2.1 dX10_rush_23 (by decide) (fun h1 => ?_) (fun h1 => ?_)
      · refine lv_iload_n C.1 C.2.1 dX10_rush_72 rfl (lv_at hl 1 rfl) ?_
        have hc : (y, F1, B1, G1, d1) = rsh (pk P) h (pn P) 0 0 (F, B, G, dk) := hc
        rw [show (oRush (pk P) (pn P) h (F, B, G, dk)) = (0, y, F1, B1, G1, d1) by unfold oRush; rw [if_neg (by rw [ho]; decide), ← hc]]
        exact ct_i C hr hlocks rfl (fun t ht hW => x_post hw ht hW) hS (by show cells ≤ 48; omega) (by show slots ≤ 288; omega) dX10_rush_73
      · exact absurd (by rw [hx]; exact nI_le (Nat.le_refl 24) (by omega)) h1
    | succ k ih =>
      intro j hj x y F1 B1 G1 d1 hx hI1 hc H locs hw hS cells slots hcl hsl ls hl
      have hO1 : Ok P F1 d1 := hI1.1
      refine lv_iload_n C.1 C.2.1 dX10_rush_17 rfl (lv_at hl 0 rfl) ?_
      refine lv_aload_n C.1 C.2.1 dX10_rush_18 rfl (lv_at hl 2 rfl) ?_
      refine xs_get C hw 1 (by decide) tb_82 rfl dX10_rush_19 ?_
      refine xV_len C hw dX10_rush_22 ?_
      refine lv_icmp_ge (tgt := 72) C.1 C.2.1 dX10_rush_23 (by decide) (fun h1 => ?_) (fun h1 => ?_)
      · exact absurd (by rw [hx] at h1; exact h1) (nI_ge (a := j) (b := 24) (by omega) (by omega))
      · refine lv_aload_n C.1 C.2.1 dX10_rush_26 rfl (lv_at hl 2 rfl) ?_
        refine xs_get C hw 1 (by decide) tb_82 rfl dX10_rush_27 ?_
        refine lv_iload_n C.1 C.2.1 dX10_rush_30 rfl (lv_at hl 0 rfl) ?_
        by_cases hjn : j < pn P
        · have hkj : pk P j < 9 := hO1.2.1 j hjn
          refine xV_ldS C hw (show j < 24 by omega) hx hjn dX10_rush_31 ?_
          refine lv_astore (lv' := [(4, .ref (pa P j)), (3, .int (x)), (2, .int (y)), (0, .ref (pS P)), (1, .int (h))]) C.1 C.2.1 dX10_rush_32 hl (by decide) rfl (fun ls hl => ?_)
          refine lv_aload C.1 C.2.1 dX10_rush_34 (lv_at hl 0 rfl) ?_
          refine lv_ifnull C.1 C.2.1 dX10_rush_36 ?_
          refine lv_aload C.1 C.2.1 dX10_rush_39 (lv_at hl 0 rfl) ?_
          refine xv_get C hw hjn hkj 6 (by decide) tb_147 (Or.inl rfl) rfl dX10_rush_41 ?_
          refine lv_if_ne (tgt := 66) C.1 C.2.1 dX10_rush_44 (by decide) (fun h2 => ?_) (fun h2 => ?_)
          · rw [show pn P - j = (pn P - (j + 1)) + 1 by omega] at hc
            have hc := (show rsh (pk P) h (pn P - (j + 1) + 1) j y (F1, B1, G1, d1) = rsh (pk P) h (pn P - (j + 1)) (j + 1) y (F1, B1, G1, d1) from if_neg h2).symm.trans hc
            obtain ⟨x1, ex1⟩ : ∃ z : Int32, z = x + 1 := ⟨_, rfl⟩
            refine lv_iinc (v := x1) (lv' := [(3, .int (x1)), (4, .ref (pa P j)), (2, .int (y)), (0, .ref (pS P)), (1, .int (h))]) C.1 C.2.1 dX10_rush_66 hl (k := 1) rfl (by rw [ex1]; rfl) (by decide) rfl (fun ls hl => ?_)
            refine lv_goto (tgt := 17) C.1 C.2.1 dX10_rush_69 (by decide) ?_
            exact ih (j + 1) (by omega) x1 y F1 B1 G1 d1 (by rw [ex1, hx]; exact nI_1 j) (hI1) (hc) H locs hw hS cells slots (by omega) (by omega) ls (lv_sub hl [0, 2, 3, 4] rfl)
          · rw [show pn P - j = (pn P - (j + 1)) + 1 by omega] at hc
            have hc := (show rsh (pk P) h (pn P - (j + 1) + 1) j y (F1, B1, G1, d1) = rsh (pk P) h (pn P - (j + 1)) (j + 1) (if (eN (pk P) j h (F1, B1, G1, d1)).1 = 0 then y + 1 else y) (eN (pk P) j h (F1, B1, G1, d1)).2 from if_pos h2).symm.trans hc
            have hnd : j ∉ d1 := fun q => absurd ((hI1.2.2.1 j q).symm.trans h2) (by decide)
            have hI2 := eN_inv (h := h) (K := pk P) hI1 hjn hnd
            refine lv_aload C.1 C.2.1 dX10_rush_47 (lv_at hl 0 rfl) ?_
            refine lv_iload_n C.1 C.2.1 dX10_rush_49 rfl (lv_at hl 4 rfl) ?_
            refine ct_go (v_enter C hw hjn hkj hlt hE hS hO1 hI1.2.1 (hO1.lt hjn hnd) tb_607 hl.1 dX10_rush_50 ⟨Nat.le_of_ble_eq_true rfl, Nat.le_of_ble_eq_true rfl⟩ (Nat.le_of_ble_eq_true rfl) ⟨by show cells + 2 ≤ 48; omega, by show slots + 12 ≤ 288; omega⟩) hS (fun _ h => h) (fun E hoc ce q9 t H locs ht hvm hw _ _ hS hce hcv hcls => ?_) (fun v hoc t H locs ht hvm hw _ _ hS => ?_)
            · have hw := x_back hw ht hvm
              have hne : ¬ (eN (pk P) j h (F1, B1, G1, d1)).1 = 0 := fun q => by rw [ocE_0 q] at hoc; cases hoc
              rw [if_neg hne] at hc
              rcases ocE_r hoc with ⟨q1, rfl⟩ | ⟨q0, q1, rfl⟩
              · refine vx_catch C.2.2.2.1 [] ⟨47, 56, 59, 82⟩ [⟨47, 56, 64, 84⟩] (by rw [htab]; rfl) (fun z hz => by cases hz) (by decide) (by decide) (C.2.2.2.2 _ tb_605) (va_Nw.use rfl hE.2.2.1.1) hce hcv hcls ?_
                refine lv_astore (lv' := [(5, .ref (q9)), (4, .ref (pa P j)), (3, .int (x)), (2, .int (y)), (0, .ref (pS P)), (1, .int (h))]) C.1 C.2.1 dX10_rush_59 hl (by decide) rfl (fun ls hl => ?_)
                refine lv_goto (tgt := 66) C.1 C.2.1 dX10_rush_61 (by decide) ?_
                obtain ⟨x1, ex1⟩ : ∃ z : Int32, z = x + 1 := ⟨_, rfl⟩
                refine lv_iinc (v := x1) (lv' := [(3, .int (x1)), (5, .ref (q9)), (4, .ref (pa P j)), (2, .int (y)), (0, .ref (pS P)), (1, .int (h))]) C.1 C.2.1 dX10_rush_66 hl (k := 2) rfl (by rw [ex1]; rfl) (by decide) rfl (fun ls hl => ?_)
                refine lv_goto (tgt := 17) C.1 C.2.1 dX10_rush_69 (by decide) ?_
                exact ih (j + 1) (by omega) x1 y (eN (pk P) j h (F1, B1, G1, d1)).2.1 (eN (pk P) j h (F1, B1, G1, d1)).2.2.1 (eN (pk P) j h (F1, B1, G1, d1)).2.2.2.1 (eN (pk P) j h (F1, B1, G1, d1)).2.2.2.2 (by rw [ex1, hx]; exact nI_1 j) (hI2) (hc) H locs hw hS (cells + 2) (slots + 12) (by omega) (by omega) ls (lv_sub hl [0, 3, 4, 5] rfl)
              · refine vx_catch C.2.2.2.1 [⟨47, 56, 59, 82⟩] ⟨47, 56, 64, 84⟩ [] (by rw [htab]; rfl) (fun z hz => by rcases List.mem_singleton.mp hz with rfl; exact Or.inr ⟨by decide, _, C.2.2.2.2 _ tb_605, hE.2.2.1.2.2⟩) (by decide) (by decide) (C.2.2.2.2 _ tb_606) (va_Nw.use rfl hE.2.2.1.2.1) hce hcv hcls ?_
                refine lv_astore (lv' := [(5, .ref (q9)), (4, .ref (pa P j)), (3, .int (x)), (2, .int (y)), (0, .ref (pS P)), (1, .int (h))]) C.1 C.2.1 dX10_rush_64 hl (by decide) rfl (fun ls hl => ?_)
                obtain ⟨x1, ex1⟩ : ∃ z : Int32, z = x + 1 := ⟨_, rfl⟩
                refine lv_iinc (v := x1) (lv' := [(3, .int (x1)), (5, .ref (q9)), (4, .ref (pa P j)), (2, .int (y)), (0, .ref (pS P)), (1, .int (h))]) C.1 C.2.1 dX10_rush_66 hl (k := 2) rfl (by rw [ex1]; rfl) (by decide) rfl (fun ls hl => ?_)
                refine lv_goto (tgt := 17) C.1 C.2.1 dX10_rush_69 (by decide) ?_
                exact ih (j + 1) (by omega) x1 y (eN (pk P) j h (F1, B1, G1, d1)).2.1 (eN (pk P) j h (F1, B1, G1, d1)).2.2.1 (eN (pk P) j h (F1, B1, G1, d1)).2.2.2.1 (eN (pk P) j h (F1, B1, G1, d1)).2.2.2.2 (by rw [ex1, hx]; exact nI_1 j) (hI2) (hc) H locs hw hS (cells + 2) (slots + 12) (by omega) (by omega) ls (lv_sub hl [0, 3, 4, 5] rfl)
            · have hw := x_back hw ht hvm
              obtain ⟨h0, rfl⟩ := ocE_l hoc
              rw [if_pos h0] at hc
              obtain ⟨y1, ey1⟩ : ∃ z : Int32, z = y + 1 := ⟨_, rfl⟩
              refine lv_iinc (v := y1) (lv' := [(2, .int (y1)), (4, .ref (pa P j)), (3, .int (x)), (0, .ref (pS P)), (1, .int (h))]) C.1 C.2.1 dX10_rush_53 hl (k := 2) rfl (by rw [ey1]; rfl) (by decide) rfl (fun ls hl => ?_)
              refine lv_goto (tgt := 66) C.1 C.2.1 dX10_rush_56 (by decide) ?_
              obtain ⟨x1, ex1⟩ : ∃ z : Int32, z = x + 1 := ⟨_, rfl⟩
              refine lv_iinc (v := x1) (lv' := [(3, .int (x1)), (2, .int (y1)), (4, .ref (pa P j)), (0, .ref (pS P)), (1, .int (h))]) C.1 C.2.1 dX10_rush_66 hl (k := 2) rfl (by rw [ex1]; rfl) (by decide) rfl (fun ls hl => ?_)
              refine lv_goto (tgt := 17) C.1 C.2.1 dX10_rush_69 (by decide) ?_
              exact ih (j + 1) (by omega) x1 y1 (eN (pk P) j h (F1, B1, G1, d1)).2.1 (eN (pk P) j h (F1, B1, G1, d1)).2.2.1 (eN (pk P) j h (F1, B1, G1, d1)).2.2.2.1 (eN (pk P) j h (F1, B1, G1, d1)).2.2.2.2 (by rw [ex1, hx]; exact nI_1 j) (hI2) (by rw [ey1]; exact hc) H locs hw hS (cells + 2) (slots + 12) (by omega) (by omega) ls (lv_sub hl [0, 1, 3, 4] rfl)
        · refine xV_ldN C hw (show j < 24 by omega) hx hjn dX10_rush_31 ?_
          refine lv_astoreN (lv' := [(4, .null), (3, .int (x)), (2, .int (y)), (0, .ref (pS P)), (1, .int (h))]) C.1 C.2.1 dX10_rush_32 hl (by decide) rfl (fun ls hl => ?_)
          refine lv_aloadN C.1 C.2.1 dX10_rush_34 (lv_at hl 0 rfl) ?_
          refine lv_ifnullN (tgt := 66) C.1 C.2.1 dX10_rush_36 (by decide) ?_
          obtain ⟨x1, ex1⟩ : ∃ z : Int32, z = x + 1 := ⟨_, rfl⟩
          refine lv_iinc (v := x1) (lv' := [(3, .int (x1)), (4, .null), (2, .int (y)), (0, .ref (pS P)), (1, .int (h))]) C.1 C.2.1 dX10_rush_66 hl (k := 1) rfl (by rw [ex1]; rfl) (by decide) rfl (fun ls hl => ?_)
          refine lv_goto (tgt := 17) C.1 C.2.1 dX10_rush_69 (by decide) ?_
          exact ih (j + 1) (by omega) x1 y F1 B1 G1 d1 (by rw [ex1, hx]; exact nI_1 j) (hI1) (by rw [show pn P - (j + 1) = 0 by omega]; rw [show pn P - j = 0 by omega] at hc; exact hc) H locs hw hS cells slots (by omega) (by omega) ls (lv_sub hl [0, 2, 3, 4] rfl)
  refine lv_iload_n C.1 C.2.1 dX10_rush_0 rfl (lv_at hl 1 rfl) ?_
  refine lv_iconst (v := 0) C.1 C.2.1 dX10_rush_1 (by decide) ?_
  refine lv_bipush (v := 23) C.1 C.2.1 dX10_rush_2 (by decide) ?_
  refine ct_ret (ct_S C (c_X10_isOutside l (h) (0) (23)) Tr_bl (Or.inl rfl) tb_97 tb_1 ⟨Nat.le_of_ble_eq_true rfl, Nat.le_of_ble_eq_true rfl⟩ tb_95 ⟨by decide, by decide⟩ tb_96 (fun _ _ _ => trivial) (by show _ = some 3; decide +kernel) hl.1 rfl (Nat.le_of_ble_eq_true rfl) dX10_rush_4 ⟨Nat.le_of_ble_eq_true rfl, Nat.le_of_ble_eq_true rfl⟩) hS (fun _ h => False.elim h) (fun t H locs ht hvm _ _ hk hS => ?_)
  have hw := x_kept hw hk
  refine lv_if_eq (tgt := 13) C.1 C.2.1 dX10_rush_7 (by decide) (fun h1 => ?_) (fun h1 => ?_)
  · refine lv_iconst (v := 0) C.1 C.2.1 dX10_rush_13 (by decide) ?_
    refine lv_istore_n (lv' := [(2, .int (0)), (0, .ref (pS P)), (1, .int (h))]) C.1 C.2.1 dX10_rush_14 rfl hl (by decide) rfl (fun ls hl => ?_)
    refine lv_iconst (v := 0) C.1 C.2.1 dX10_rush_15 (by decide) ?_
    refine lv_istore_n (lv' := [(3, .int (0)), (2, .int (0)), (0, .ref (pS P)), (1, .int (h))]) C.1 C.2.1 dX10_rush_16 rfl hl (by decide) rfl (fun ls hl => ?_)
    exact loop (b2i_0 h1) 24 0 rfl 0 0 F B G dk nI_0.symm hI rfl _ _ hw hS _ _ (by decide) (by decide) ls hl
  · refine lv_bipush (v := -102) C.1 C.2.1 dX10_rush_10 (by decide) ?_
    rw [show (oRush (pk P) (pn P) h (F, B, G, dk)) = (0, -102, (F, B, G, dk)) from ifo_p h1]
    exact ct_i C hr hlocks rfl (fun t ht hW => x_post hw ht hW) hS (Nat.le_of_ble_eq_true rfl) (Nat.le_of_ble_eq_true rfl) dX10_rush_12
