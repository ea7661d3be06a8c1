theorem bn_0 {b : Bool} (h : b2i (!b) = 0) : b = true := by cases b; exact absurd h (by decide); rfl
theorem bn_1 {b : Bool} (h : ¬ b2i (!b) = 0) : b = false := by cases b; rfl; exact absurd rfl h
theorem addF0_u {P : SwP} {F : Nat → Nat → Int32} {ki ma lo sh : Int32} (h : ∀ a, pn P ≤ a → ∀ b, F a b = 0) : uF (uF (uF (uF F (pn P) 2 ki) (pn P) 3 ma) (pn P) 5 lo) (pn P) 4 sh = addF0 (pn P) F ki ma lo sh := by
  funext a b
  unfold uF addF0
  by_cases h1 : a = pn P
  · subst h1
    simp only [true_and, if_true]
    by_cases e2 : b = 2
    · subst e2; rfl
    · by_cases e3 : b = 3
      · subst e3; rfl
      · by_cases e4 : b = 4
        · subst e4; rfl
        · by_cases e5 : b = 5
          · subst e5; rfl
          · simp only [e2, e3, e4, e5, if_false]; exact h _ (Nat.le_refl _) b
  · simp only [h1, false_and, if_false]
set_option maxHeartbeats 400000 in
set_option maxRecDepth 100000 in
/-- all ashore ENTER -/
theorem c_X11_rush (l : Launch) (D : va_G) (A : Nat → Prop) (P : SwP) (q : Nat → Nat) (cI : Nat) (F : Nat → Nat → Int32) (B G : Nat → Int32) (dk : List Nat) (thr : Int32) (h : Int32) (hI : Inv P (F, B, G, dk)) : Ct l yX11_rush (.code yX11_rush cX11_rush 4 (some .int)) ({ frames := 6, cells := 0, slots := 0, locals := 160 }) A [.ref (q 0), .int h] (Mz D A q cI (pn P) F B G dk thr) (.inl (some (.int (oRush (pk P) (pn P) h (F, B, G, dk)).2.1))) (Mz D A q cI (pn P) (oRush (pk P) (pn P) h (F, B, G, dk)).2.2.1 (oRush (pk P) (pn P) h (F, B, G, dk)).2.2.2.1 (oRush (pk P) (pn P) h (F, B, G, dk)).2.2.2.2.1 (oRush (pk P) (pn P) h (F, B, G, dk)).2.2.2.2.2 0) := by
  refine ct_mk (by decide) (Nat.le_of_ble_eq_true rfl) (fun p e s m below meth c ls C hr hlocks hnm htab hP hl => ?_)
  obtain ⟨r, dv, hro, hw⟩ := hP
  have hS : va_S A s.heap s.heap [] := va_S.rf
  have hl : lv_has ls 4 [(0, .ref (q 0)), (1, .int h)] := hl
  have hn24 := hI.1.1
  have loop : outs h 0 23 = false → ∀ (k j : Nat), j + k = pn P → ∀ (y : Int32) (F1 : Nat → Nat → Int32) (B1 G1 : Nat → Int32) (d1 : List Nat), Inv P (F1, B1, G1, d1) → rsh (pk P) h k j y (F1, B1, G1, d1) = rsh (pk P) h (pn P) 0 0 (F, B, G, dk) → ∀ (r : Nat → Int32) (dv : Int32), RowOk r d1 → ∀ (H : Heap) (locs : List Loc), MwR D A q cI (pn P) F1 B1 G1 (nI d1.length) r 0 dv s H → va_S A s.heap H locs → ∀ ls : Array Slot, lv_has ls 4 [(3, .int (nI j)), (2, .int y), (0, .ref (q 0)), (1, .int h)] → W p l e ({ frames := 6, cells := 0, slots := 0, locals := 160 }) s m ([.ref (q 0), .int h] : List Value).toArray below meth c H locs 0 0 (CtQ below s ([.ref (q 0), .int h] : List Value).toArray ({ frames := 6, cells := 0, slots := 0, locals := 160 }) A (.inl (some (.int (oRush (pk P) (pn P) h (F, B, G, dk)).2.1))) (Mz D A q cI (pn P) (oRush (pk P) (pn P) h (F, B, G, dk)).2.2.1 (oRush (pk P) (pn P) h (F, B, G, dk)).2.2.2.1 (oRush (pk P) (pn P) h (F, B, G, dk)).2.2.2.2.1 (oRush (pk P) (pn P) h (F, B, G, dk)).2.2.2.2.2 0)) (F0 m 19 ls []) := by
    intro ho k
    induction k with
    | zero =>
      intro j hj y F1 B1 G1 d1 hI1 hc r dv hro H locs hw hS ls hl
      have hj : j = pn P := by omega
      subst hj
      refine lv_iload_n C.1 C.2.1 dX11_rush_19 rfl (lv_at hl 0 rfl) ?_
      refine lv_aload_n C.1 C.2.1 dX11_rush_20 rfl (lv_at hl 2 rfl) ?_
      refine mg_get C hw 1 (by decide) tb_709 rfl dX11_rush_21 ?_
      refine lv_icmp_ge (tgt := 59) C.1 C.2.1 dX11_rush_24 (by decide) (fun h1 => ?_) (fun h1 => ?_)
      · refine lv_iload_n C.1 C.2.1 dX11_rush_59 rfl (lv_at hl 1 rfl) ?_
        have hc : (y, F1, B1, G1, d1) = rsh (pk P) h (pn P) 0 0 (F, B, G, dk) := hc
        rw [show (oRush (pk P) (pn P) h (F, B, G, dk)) = (0, y, F1, B1, G1, d1) by unfold oRush; rw [if_neg (by rw [ho]; decide), ← hc]]
        exact ct_i C hr hlocks rfl (fun t ht hW => mz_mk hro hw ht hW) hS (Nat.le_of_ble_eq_true rfl) (Nat.le_of_ble_eq_true rfl) dX11_rush_60
      · exact absurd (Int32.le_refl _) h1
    | succ k ih =>
      intro j hj y F1 B1 G1 d1 hI1 hc r dv hro H locs hw hS ls hl
      have hO1 : Ok P F1 d1 := hI1.1
      have hjn : j < pn P := by omega
      have hj24 : j < 24 := by omega
      refine lv_iload_n C.1 C.2.1 dX11_rush_19 rfl (lv_at hl 0 rfl) ?_
      refine lv_aload_n C.1 C.2.1 dX11_rush_20 rfl (lv_at hl 2 rfl) ?_
      refine mg_get C hw 1 (by decide) tb_709 rfl dX11_rush_21 ?_
      refine lv_icmp_ge (tgt := 59) C.1 C.2.1 dX11_rush_24 (by decide) (fun h1 => ?_) (fun h1 => ?_)
      · exact absurd h1 (nI_ge (a := j) (b := pn P) (by omega) (by omega))
      · refine lv_iload_n C.1 C.2.1 dX11_rush_27 rfl (lv_at hl 1 rfl) ?_
        refine lv_aload_n C.1 C.2.1 dX11_rush_28 rfl (lv_at hl 2 rfl) ?_
        refine mg_get C hw 6 (by decide) tb_714 rfl dX11_rush_29 ?_
        refine lv_iload_n C.1 C.2.1 dX11_rush_32 rfl (lv_at hl 0 rfl) ?_
        refine ma_place C hw hj24 rfl dX11_rush_33 ?_
        refine lv_if_ne (tgt := 50) C.1 C.2.1 dX11_rush_34 (by decide) (fun h2 => ?_) (fun h2 => ?_)
        · have hc := (show rsh (pk P) h (k + 1) j y (F1, B1, G1, d1) = rsh (pk P) h k (j + 1) y (F1, B1, G1, d1) from if_neg h2).symm.trans hc
          refine lv_iconst (v := 0) C.1 C.2.1 dX11_rush_50 (by decide) ?_
          refine lv_iadd C.1 C.2.1 dX11_rush_51 ?_
          rw [show (y + 0 : Int32) = y from Int32.add_zero y]
          refine lv_istore_n (lv' := [(2, .int (y)), (3, .int (nI j)), (0, .ref (q 0)), (1, .int (h))]) C.1 C.2.1 dX11_rush_52 rfl hl (by decide) rfl (fun ls hl => ?_)
          obtain ⟨x1, ex1⟩ : ∃ z : Int32, z = nI j + 1 := ⟨_, rfl⟩
          refine lv_iinc (v := x1) (lv' := [(3, .int (x1)), (2, .int (y)), (0, .ref (q 0)), (1, .int (h))]) C.1 C.2.1 dX11_rush_53 hl (k := 1) rfl (by rw [ex1]; rfl) (by decide) rfl (fun ls hl => ?_)
          rw [show x1 = nI (j + 1) by rw [ex1]; exact nI_1 j] at hl
          refine lv_goto (tgt := 19) C.1 C.2.1 dX11_rush_56 (by decide) ?_
          exact ih (j + 1) (by omega) y F1 B1 G1 d1 hI1 hc r dv hro H locs hw hS ls (lv_sub hl [0, 1, 2, 3] rfl)
        · have hc := (show rsh (pk P) h (k + 1) j y (F1, B1, G1, d1) = rsh (pk P) h k (j + 1) (if (eN (pk P) j h (F1, B1, G1, d1)).1 = 0 then y + 1 else y) (eN (pk P) j h (F1, B1, G1, d1)).2 from if_pos h2).symm.trans hc
          have hnd : j ∉ d1 := fun z => absurd ((hI1.2.2.1 j z).symm.trans h2) (by decide)
          have hI2 := eN_inv (h := h) (K := pk P) hI1 hjn hnd
          refine lv_aload_n C.1 C.2.1 dX11_rush_37 rfl (lv_at hl 2 rfl) ?_
          refine lv_iload_n C.1 C.2.1 dX11_rush_38 rfl (lv_at hl 0 rfl) ?_
          refine lv_iload_n C.1 C.2.1 dX11_rush_39 rfl (lv_at hl 3 rfl) ?_
          refine ct_ret (ct_V0 C (c_X11_enters l D A P q cI F1 B1 G1 d1 0 hO1 j hjn h (hO1.lt hjn hnd) hI1.2.2.2.2.2.1) Mz_bl (Or.inl rfl) tb_820 tb_3 ⟨Nat.le_of_ble_eq_true rfl, Nat.le_of_ble_eq_true rfl⟩ tb_817 ⟨by decide, by decide⟩ tbp_9 tb_819 (m_recv hw) (fun U hU hW => mz_mk hro hw hU hW) (sig_code (C.2.2.2.2 _ tb_820)) (by show _ = some 2; decide +kernel) hl.1 rfl (Nat.le_of_ble_eq_true rfl) dX11_rush_40 ⟨Nat.le_of_ble_eq_true rfl, Nat.le_of_ble_eq_true rfl⟩) hS (fun _ h => h) (fun t H locs ht hvm hw _ _ hS => ?_)
          obtain ⟨r, dv, hro, hw⟩ := hw
          have hw := m_back hw ht hvm
          refine lv_if_ne (tgt := 50) C.1 C.2.1 dX11_rush_43 (by decide) (fun h2 => ?_) (fun h2 => ?_)
          · have hne : ¬ (eN (pk P) j h (F1, B1, G1, d1)).1 = 0 := fun z => h2 (by rw [z]; rfl)
            rw [if_neg hne] at hc
            refine lv_iconst (v := 0) C.1 C.2.1 dX11_rush_50 (by decide) ?_
            refine lv_iadd C.1 C.2.1 dX11_rush_51 ?_
            rw [show (y + 0 : Int32) = y from Int32.add_zero y]
            refine lv_istore_n (lv' := [(2, .int (y)), (3, .int (nI j)), (0, .ref (q 0)), (1, .int (h))]) C.1 C.2.1 dX11_rush_52 rfl hl (by decide) rfl (fun ls hl => ?_)
            obtain ⟨x1, ex1⟩ : ∃ z : Int32, z = nI j + 1 := ⟨_, rfl⟩
            refine lv_iinc (v := x1) (lv' := [(3, .int (x1)), (2, .int (y)), (0, .ref (q 0)), (1, .int (h))]) C.1 C.2.1 dX11_rush_53 hl (k := 1) rfl (by rw [ex1]; rfl) (by decide) rfl (fun ls hl => ?_)
            rw [show x1 = nI (j + 1) by rw [ex1]; exact nI_1 j] at hl
            refine lv_goto (tgt := 19) C.1 C.2.1 dX11_rush_56 (by decide) ?_
            exact ih (j + 1) (by omega) (y) (eN (pk P) j h (F1, B1, G1, d1)).2.1 (eN (pk P) j h (F1, B1, G1, d1)).2.2.1 (eN (pk P) j h (F1, B1, G1, d1)).2.2.2.1 (eN (pk P) j h (F1, B1, G1, d1)).2.2.2.2 hI2 hc r dv hro H locs hw hS ls (lv_sub hl [0, 1, 2, 3] rfl)
          · have hp3 : (eN (pk P) j h (F1, B1, G1, d1)).1 < 3 := eN_3
            have h0 : (eN (pk P) j h (F1, B1, G1, d1)).1 = 0 := (nI_eq (b := 0) (by omega) (by omega)).mp h2
            rw [if_pos h0] at hc
            refine lv_iconst (v := 1) C.1 C.2.1 dX11_rush_46 (by decide) ?_
            refine lv_goto (tgt := 51) C.1 C.2.1 dX11_rush_47 (by decide) ?_
            refine lv_iadd C.1 C.2.1 dX11_rush_51 ?_
            refine lv_istore_n (lv' := [(2, .int ((y) + (1))), (3, .int (nI j)), (0, .ref (q 0)), (1, .int (h))]) C.1 C.2.1 dX11_rush_52 rfl hl (by decide) rfl (fun ls hl => ?_)
            obtain ⟨x1, ex1⟩ : ∃ z : Int32, z = nI j + 1 := ⟨_, rfl⟩
            refine lv_iinc (v := x1) (lv' := [(3, .int (x1)), (2, .int ((y) + (1))), (0, .ref (q 0)), (1, .int (h))]) C.1 C.2.1 dX11_rush_53 hl (k := 1) rfl (by rw [ex1]; rfl) (by decide) rfl (fun ls hl => ?_)
            rw [show x1 = nI (j + 1) by rw [ex1]; exact nI_1 j] at hl
            refine lv_goto (tgt := 19) C.1 C.2.1 dX11_rush_56 (by decide) ?_
            exact ih (j + 1) (by omega) (y + 1) (eN (pk P) j h (F1, B1, G1, d1)).2.1 (eN (pk P) j h (F1, B1, G1, d1)).2.2.1 (eN (pk P) j h (F1, B1, G1, d1)).2.2.2.1 (eN (pk P) j h (F1, B1, G1, d1)).2.2.2.2 hI2 hc r dv hro H locs hw hS ls (lv_sub hl [0, 1, 2, 3] rfl)
  refine lv_aload_n C.1 C.2.1 dX11_rush_0 rfl (lv_at hl 0 rfl) ?_
  refine lv_iconst (v := 0) C.1 C.2.1 dX11_rush_1 (by decide) ?_
  refine mp_thr C hw hS tb_708 dX11_rush_2 (fun H locs hw hS => ?_)
  refine lv_iload_n C.1 C.2.1 dX11_rush_5 rfl (lv_at hl 1 rfl) ?_
  refine ct_ret (ct_S C (c_X11_isHour l (h)) Tr_bl (Or.inl rfl) tb_792 tb_3 ⟨Nat.le_of_ble_eq_true rfl, Nat.le_of_ble_eq_true rfl⟩ tb_790 ⟨by decide, by decide⟩ tb_791 (fun _ _ _ => trivial) (by show _ = some 1; decide +kernel) hl.1 rfl (Nat.le_of_ble_eq_true rfl) dX11_rush_6 ⟨Nat.le_of_ble_eq_true rfl, Nat.le_of_ble_eq_true rfl⟩) hS (fun _ h => False.elim h) (fun t H locs ht hvm _ _ hk hS => ?_)
  have hw := m_kept hw hk
  refine lv_if_ne (tgt := 15) C.1 C.2.1 dX11_rush_9 (by decide) (fun h1 => ?_) (fun h1 => ?_)
  · refine lv_iconst (v := 0) C.1 C.2.1 dX11_rush_15 (by decide) ?_
    refine lv_istore_n (lv' := [(2, .int (0)), (0, .ref (q 0)), (1, .int (h))]) C.1 C.2.1 dX11_rush_16 rfl hl (by decide) rfl (fun ls hl => ?_)
    refine lv_iconst (v := 0) C.1 C.2.1 dX11_rush_17 (by decide) ?_
    refine lv_istore_n (lv' := [(3, .int (0)), (2, .int (0)), (0, .ref (q 0)), (1, .int (h))]) C.1 C.2.1 dX11_rush_18 rfl hl (by decide) rfl (fun ls hl => ?_)
    exact loop (bn_1 h1) (pn P) 0 (by omega) 0 F B G dk hI rfl r dv hro _ _ hw hS ls hl
  · refine lv_bipush (v := -102) C.1 C.2.1 dX11_rush_12 (by decide) ?_
    rw [show (oRush (pk P) (pn P) h (F, B, G, dk)) = (0, -102, (F, B, G, dk)) from if_pos (bn_0 h1)]
    exact ct_i C hr hlocks rfl (fun t ht hW => mz_mk hro hw ht hW) hS (Nat.le_of_ble_eq_true rfl) (Nat.le_of_ble_eq_true rfl) dX11_rush_14
set_option maxHeartbeats 400000 in
set_option maxRecDepth 100000 in
/-- all on the DECK LEAVE -/
theorem c_X11_clear (l : Launch) (D : va_G) (A : Nat → Prop) (P : SwP) (q : Nat → Nat) (cI : Nat) (F : Nat → Nat → Int32) (B G : Nat → Int32) (dk : List Nat) (thr : Int32) (hI : Inv P (F, B, G, dk)) : Ct l yX11_clear (.code yX11_clear cX11_clear 2 (some .int)) ({ frames := 6, cells := 0, slots := 0, locals := 160 }) A [.ref (q 0)] (Mz D A q cI (pn P) F B G dk thr) (.inl (some (.int (oClear (pk P) (F, B, G, dk)).2.1))) (Mz D A q cI (pn P) (oClear (pk P) (F, B, G, dk)).2.2.1 (oClear (pk P) (F, B, G, dk)).2.2.2.1 (oClear (pk P) (F, B, G, dk)).2.2.2.2.1 (oClear (pk P) (F, B, G, dk)).2.2.2.2.2 0) := by
  refine ct_mk (by decide) (Nat.le_of_ble_eq_true rfl) (fun p e s m below meth c ls C hr hlocks hnm htab hP hl => ?_)
  obtain ⟨r, dv, hro, hw⟩ := hP
  have hS : va_S A s.heap s.heap [] := va_S.rf
  have hl : lv_has ls 2 [(0, .ref (q 0))] := hl
  have hL : dk.length ≤ 24 := hI.1.len
  have loop : ∀ (k j : Nat), j + k = dk.length → ∀ (F1 : Nat → Nat → Int32) (B1 G1 : Nat → Int32) (d1 : List Nat), d1.length = k → Inv P (F1, B1, G1, d1) → clr (pk P) k (F1, B1, G1, d1) = clr (pk P) dk.length (F, B, G, dk) → ∀ (r : Nat → Int32) (dv : Int32), RowOk r d1 → ∀ (H : Heap) (locs : List Loc), MwR D A q cI (pn P) F1 B1 G1 (nI d1.length) r 0 dv s H → va_S A s.heap H locs → ∀ ls : Array Slot, lv_has ls 2 [(1, .int (nI j)), (0, .ref (q 0))] → W p l e ({ frames := 6, cells := 0, slots := 0, locals := 160 }) s m ([.ref (q 0)] : List Value).toArray below meth c H locs 0 0 (CtQ below s ([.ref (q 0)] : List Value).toArray ({ frames := 6, cells := 0, slots := 0, locals := 160 }) A (.inl (some (.int (oClear (pk P) (F, B, G, dk)).2.1))) (Mz D A q cI (pn P) (oClear (pk P) (F, B, G, dk)).2.2.1 (oClear (pk P) (F, B, G, dk)).2.2.2.1 (oClear (pk P) (F, B, G, dk)).2.2.2.2.1 (oClear (pk P) (F, B, G, dk)).2.2.2.2.2 0)) (F0 m 7 ls []) := by
    intro k
    induction k with
    | zero =>
      intro j hj F1 B1 G1 d1 hd hI1 hc r dv hro H locs hw hS ls hl
      have hj : j = dk.length := by omega
      subst hj
      refine lv_aload_n C.1 C.2.1 dX11_clear_7 rfl (lv_at hl 1 rfl) ?_
      refine mg_get C hw 11 (by decide) tb_719 rfl dX11_clear_8 ?_
      refine lv_if_le (tgt := 30) C.1 C.2.1 dX11_clear_11 (by decide) (fun h1 => ?_) (fun h1 => ?_)
      · refine lv_iload_n C.1 C.2.1 dX11_clear_30 rfl (lv_at hl 0 rfl) ?_
        have hc : (F1, B1, G1, d1) = clr (pk P) dk.length (F, B, G, dk) := hc
        rw [show (oClear (pk P) (F, B, G, dk)) = (0, nI dk.length, F1, B1, G1, d1) by unfold oClear; rw [hc]]
        exact ct_i C hr hlocks rfl (fun t ht hW => mz_mk hro hw ht hW) hS (Nat.le_of_ble_eq_true rfl) (Nat.le_of_ble_eq_true rfl) dX11_clear_31
      · exact absurd (by rw [hd]; decide) h1
    | succ k ih =>
      intro j hj F1 B1 G1 d1 hd hI1 hc r dv hro H locs hw hS ls hl
      cases d1 with
      | nil => exact absurd hd (by simp)
      | cons v t1 =>
        have hO1 : Ok P F1 (v :: t1) := hI1.1
        have hv : v < pn P := hO1.2.2.2.1 v List.mem_cons_self
        refine lv_aload_n C.1 C.2.1 dX11_clear_7 rfl (lv_at hl 1 rfl) ?_
        refine mg_get C hw 11 (by decide) tb_719 rfl dX11_clear_8 ?_
        refine lv_if_le (tgt := 30) C.1 C.2.1 dX11_clear_11 (by decide) (fun h1 => ?_) (fun h1 => ?_)
        · exact absurd (show nI (v :: t1).length ≤ nI 0 from h1) (nI_ge (a := 0) (b := (v :: t1).length) (by simp) (by rw [hd]; omega))
        · refine lv_aload_n C.1 C.2.1 dX11_clear_14 rfl (lv_at hl 1 rfl) ?_
          refine lv_aload_n C.1 C.2.1 dX11_clear_15 rfl (lv_at hl 1 rfl) ?_
          refine mg_get C hw 10 (by decide) tb_718 rfl dX11_clear_16 ?_
          refine lv_iconst (v := 0) C.1 C.2.1 dX11_clear_19 (by decide) ?_
          refine ma_row C hw (j := 0) (by decide) rfl dX11_clear_20 ?_
          rw [hro 0 v rfl]
          refine ct_ret (ct_V0 C (c_X11_leaves l D A P q cI F1 B1 G1 (v :: t1) 0 hO1 v hv List.mem_cons_self) Mz_bl (Or.inl rfl) tb_832 tb_3 ⟨Nat.le_of_ble_eq_true rfl, Nat.le_of_ble_eq_true rfl⟩ tb_829 ⟨by decide, by decide⟩ tbp_11 tb_831 (m_recv hw) (fun U hU hW => mz_mk hro hw hU hW) (sig_code (C.2.2.2.2 _ tb_832)) (by show _ = some 1; decide +kernel) hl.1 rfl (Nat.le_of_ble_eq_true rfl) dX11_clear_21 ⟨Nat.le_of_ble_eq_true rfl, Nat.le_of_ble_eq_true rfl⟩) hS (fun _ h => h) (fun t H locs ht hvm hw _ _ hS => ?_)
          obtain ⟨r, dv, hro, hw⟩ := hw
          have hw := m_back hw ht hvm
          obtain ⟨x1, ex1⟩ : ∃ z : Int32, z = nI j + 1 := ⟨_, rfl⟩
          refine lv_iinc (v := x1) (lv' := [(1, .int (x1)), (0, .ref (q 0))]) C.1 C.2.1 dX11_clear_24 hl (k := 0) rfl (by rw [ex1]; rfl) (by decide) rfl (fun ls hl => ?_)
          rw [show x1 = nI (j + 1) by rw [ex1]; exact nI_1 j] at hl
          refine lv_goto (tgt := 7) C.1 C.2.1 dX11_clear_27 (by decide) ?_
          exact ih (j + 1) (by omega) (lR (pk P) v (F1, B1, G1, v :: t1)).1 (lR (pk P) v (F1, B1, G1, v :: t1)).2.1 (lR (pk P) v (F1, B1, G1, v :: t1)).2.2.1 (lR (pk P) v (F1, B1, G1, v :: t1)).2.2.2 (by rw [lR_dk]; simp at hd ⊢; exact hd) (lR_inv hI1 hv) hc r dv hro H locs hw hS ls (lv_sub hl [0, 1] rfl)
  refine lv_aload_n C.1 C.2.1 dX11_clear_0 rfl (lv_at hl 0 rfl) ?_
  refine lv_iconst (v := 0) C.1 C.2.1 dX11_clear_1 (by decide) ?_
  refine mp_thr C hw hS tb_708 dX11_clear_2 (fun H locs hw hS => ?_)
  refine lv_iconst (v := 0) C.1 C.2.1 dX11_clear_5 (by decide) ?_
  refine lv_istore_n (lv' := [(1, .int (0)), (0, .ref (q 0))]) C.1 C.2.1 dX11_clear_6 rfl hl (by decide) rfl (fun ls hl => ?_)
  exact loop dk.length 0 (by omega) F B G dk rfl hI rfl r dv hro _ _ hw hS ls hl
set_option maxHeartbeats 400000 in
set_option maxRecDepth 100000 in
/-- a vehicle ashore -/
theorem c_X11_add (l : Launch) (D : va_G) (A : Nat → Prop) (P : SwP) (q : Nat → Nat) (cI : Nat) (F : Nat → Nat → Int32) (B G : Nat → Int32) (dk : List Nat) (thr : Int32) (sz : Nat) (ki ma lo sh : Int32) (hI : Inv P (F, B, G, dk)) : Ct l yX11_add (.code yX11_add cX11_add 5 (some .int)) ({ frames := 6, cells := 0, slots := 0, locals := 160 }) A [.ref (q 0), .int ki, .int ma, .int lo, .int sh] (Mz D A q cI (pn P) F B G dk thr) (.inl (some (.int (addV (pn P) ki ma lo sh)))) (Mz D A q cI (pn (addP P sz ki ma lo sh)) (addF (pn P) F ki ma lo sh) B G dk 0) := by
  refine ct_mk (by decide) (Nat.le_of_ble_eq_true rfl) (fun p e s m below meth c ls C hr hlocks hnm htab hP hl => ?_)
  obtain ⟨r, dv, hro, hw⟩ := hP
  have hS : va_S A s.heap s.heap [] := va_S.rf
  have hl : lv_has ls 5 [(0, .ref (q 0)), (1, .int ki), (2, .int ma), (3, .int lo), (4, .int sh)] := hl
  have hO : Ok P F dk := hI.1
  refine lv_aload_n C.1 C.2.1 dX11_add_0 rfl (lv_at hl 0 rfl) ?_
  refine lv_iconst (v := 0) C.1 C.2.1 dX11_add_1 (by decide) ?_
  refine mp_thr C hw hS tb_708 dX11_add_2 (fun H locs hw hS => ?_)
  refine lv_iload_n C.1 C.2.1 dX11_add_5 rfl (lv_at hl 1 rfl) ?_
  refine lv_iconst (v := 0) C.1 C.2.1 dX11_add_6 (by decide) ?_
  refine lv_bipush (v := 8) C.1 C.2.1 dX11_add_7 (by decide) ?_
  refine ct_ret (ct_S C (c_X11_within l (ki) (0) (8)) Tr_bl (Or.inl rfl) tb_773 tb_3 ⟨Nat.le_of_ble_eq_true rfl, Nat.le_of_ble_eq_true rfl⟩ tb_771 ⟨by decide, by decide⟩ tb_772 (fun _ _ _ => trivial) (by show _ = some 3; decide +kernel) hl.1 rfl (Nat.le_of_ble_eq_true rfl) dX11_add_9 ⟨Nat.le_of_ble_eq_true rfl, Nat.le_of_ble_eq_true rfl⟩) hS (fun _ h => False.elim h) (fun t H locs ht hvm _ _ hk hS => ?_)
  have hw := m_kept hw hk
  refine lv_if_eq (tgt := 48) C.1 C.2.1 dX11_add_12 (by decide) (fun h1 => ?_) (fun h1 => ?_)
  · refine lv_bipush (v := -102) C.1 C.2.1 dX11_add_48 (by decide) ?_
    have ha : addO ki ma lo sh = true := by unfold addO; rw [show outs ki 0 8 = true from bn_0 h1]; simp
    rw [show addV (pn P) ki ma lo sh = -102 from if_pos ha, show addP P sz ki ma lo sh = P from if_pos ha, show addF (pn P) F ki ma lo sh = F from if_pos ha]
    exact ct_i C hr hlocks rfl (fun t ht hW => mz_mk hro hw ht hW) hS (Nat.le_of_ble_eq_true rfl) (Nat.le_of_ble_eq_true rfl) dX11_add_50
  · refine lv_iload_n C.1 C.2.1 dX11_add_15 rfl (lv_at hl 2 rfl) ?_
    refine lv_iconst (v := 1) C.1 C.2.1 dX11_add_16 (by decide) ?_
    refine lv_sipush (v := 5000) C.1 C.2.1 dX11_add_17 (by decide) ?_
    refine ct_ret (ct_S C (c_X11_within l (ma) (1) (5000)) Tr_bl (Or.inl rfl) tb_773 tb_3 ⟨Nat.le_of_ble_eq_true rfl, Nat.le_of_ble_eq_true rfl⟩ tb_771 ⟨by decide, by decide⟩ tb_772 (fun _ _ _ => trivial) (by show _ = some 3; decide +kernel) hl.1 rfl (Nat.le_of_ble_eq_true rfl) dX11_add_20 ⟨Nat.le_of_ble_eq_true rfl, Nat.le_of_ble_eq_true rfl⟩) hS (fun _ h => False.elim h) (fun t H locs ht hvm _ _ hk hS => ?_)
    have hw := m_kept hw hk
    refine lv_if_eq (tgt := 48) C.1 C.2.1 dX11_add_23 (by decide) (fun h2 => ?_) (fun h2 => ?_)
    · refine lv_bipush (v := -102) C.1 C.2.1 dX11_add_48 (by decide) ?_
      have ha : addO ki ma lo sh = true := by unfold addO; rw [show outs ma 1 5000 = true from bn_0 h2]; simp
      rw [show addV (pn P) ki ma lo sh = -102 from if_pos ha, show addP P sz ki ma lo sh = P from if_pos ha, show addF (pn P) F ki ma lo sh = F from if_pos ha]
      exact ct_i C hr hlocks rfl (fun t ht hW => mz_mk hro hw ht hW) hS (Nat.le_of_ble_eq_true rfl) (Nat.le_of_ble_eq_true rfl) dX11_add_50
    · refine lv_iload_n C.1 C.2.1 dX11_add_26 rfl (lv_at hl 3 rfl) ?_
      refine lv_iconst (v := 0) C.1 C.2.1 dX11_add_27 (by decide) ?_
      refine lv_sipush (v := 5000) C.1 C.2.1 dX11_add_28 (by decide) ?_
      refine ct_ret (ct_S C (c_X11_within l (lo) (0) (5000)) Tr_bl (Or.inl rfl) tb_773 tb_3 ⟨Nat.le_of_ble_eq_true rfl, Nat.le_of_ble_eq_true rfl⟩ tb_771 ⟨by decide, by decide⟩ tb_772 (fun _ _ _ => trivial) (by show _ = some 3; decide +kernel) hl.1 rfl (Nat.le_of_ble_eq_true rfl) dX11_add_31 ⟨Nat.le_of_ble_eq_true rfl, Nat.le_of_ble_eq_true rfl⟩) hS (fun _ h => False.elim h) (fun t H locs ht hvm _ _ hk hS => ?_)
      have hw := m_kept hw hk
      refine lv_if_eq (tgt := 48) C.1 C.2.1 dX11_add_34 (by decide) (fun h3 => ?_) (fun h3 => ?_)
      · refine lv_bipush (v := -102) C.1 C.2.1 dX11_add_48 (by decide) ?_
        have ha : addO ki ma lo sh = true := by unfold addO; rw [show outs lo 0 5000 = true from bn_0 h3]; simp
        rw [show addV (pn P) ki ma lo sh = -102 from if_pos ha, show addP P sz ki ma lo sh = P from if_pos ha, show addF (pn P) F ki ma lo sh = F from if_pos ha]
        exact ct_i C hr hlocks rfl (fun t ht hW => mz_mk hro hw ht hW) hS (Nat.le_of_ble_eq_true rfl) (Nat.le_of_ble_eq_true rfl) dX11_add_50
      · refine lv_iload C.1 C.2.1 dX11_add_37 (lv_at hl 4 rfl) ?_
        refine lv_iconst (v := 0) C.1 C.2.1 dX11_add_39 (by decide) ?_
        refine lv_bipush (v := 100) C.1 C.2.1 dX11_add_40 (by decide) ?_
        refine ct_ret (ct_S C (c_X11_within l (sh) (0) (100)) Tr_bl (Or.inl rfl) tb_773 tb_3 ⟨Nat.le_of_ble_eq_true rfl, Nat.le_of_ble_eq_true rfl⟩ tb_771 ⟨by decide, by decide⟩ tb_772 (fun _ _ _ => trivial) (by show _ = some 3; decide +kernel) hl.1 rfl (Nat.le_of_ble_eq_true rfl) dX11_add_42 ⟨Nat.le_of_ble_eq_true rfl, Nat.le_of_ble_eq_true rfl⟩) hS (fun _ h => False.elim h) (fun t H locs ht hvm _ _ hk hS => ?_)
        have hw := m_kept hw hk
        refine lv_if_ne (tgt := 51) C.1 C.2.1 dX11_add_45 (by decide) (fun h4 => ?_) (fun h4 => ?_)
        · have hao : addO ki ma lo sh = false := by unfold addO; rw [bn_1 h1, bn_1 h2, bn_1 h3, bn_1 h4]; rfl
          refine lv_aload_n C.1 C.2.1 dX11_add_51 rfl (lv_at hl 0 rfl) ?_
          refine mg_get C hw 1 (by decide) tb_709 rfl dX11_add_52 ?_
          refine lv_bipush (v := 24) C.1 C.2.1 dX11_add_55 (by decide) ?_
          refine lv_icmp_ne (tgt := 63) C.1 C.2.1 dX11_add_57 (by decide) (fun h5 => ?_) (fun h5 => ?_)
          · have hn24 : pn P < 24 := by have h9 := hO.1; rcases Nat.lt_or_ge (pn P) 24 with z | z; exact z; exact absurd (by rw [show pn P = 24 by omega]; rfl) h5
            refine lv_aload_n C.1 C.2.1 dX11_add_63 rfl (lv_at hl 0 rfl) ?_
            refine mg_get C hw 2 (by decide) tb_710 rfl dX11_add_64 ?_
            refine lv_aload_n C.1 C.2.1 dX11_add_67 rfl (lv_at hl 0 rfl) ?_
            refine mg_get C hw 1 (by decide) tb_709 rfl dX11_add_68 ?_
            refine lv_iload_n C.1 C.2.1 dX11_add_71 rfl (lv_at hl 1 rfl) ?_
            refine ms_kind C hw hS hn24 rfl dX11_add_72 (fun H locs hw hS => ?_)
            refine lv_aload_n C.1 C.2.1 dX11_add_73 rfl (lv_at hl 0 rfl) ?_
            refine mg_get C hw 3 (by decide) tb_711 rfl dX11_add_74 ?_
            refine lv_aload_n C.1 C.2.1 dX11_add_77 rfl (lv_at hl 0 rfl) ?_
            refine mg_get C hw 1 (by decide) tb_709 rfl dX11_add_78 ?_
            refine lv_iload_n C.1 C.2.1 dX11_add_81 rfl (lv_at hl 2 rfl) ?_
            refine ms_mass C hw hS hn24 rfl dX11_add_82 (fun H locs hw hS => ?_)
            refine lv_aload_n C.1 C.2.1 dX11_add_83 rfl (lv_at hl 0 rfl) ?_
            refine mg_get C hw 4 (by decide) tb_712 rfl dX11_add_84 ?_
            refine lv_aload_n C.1 C.2.1 dX11_add_87 rfl (lv_at hl 0 rfl) ?_
            refine mg_get C hw 1 (by decide) tb_709 rfl dX11_add_88 ?_
            refine lv_iload_n C.1 C.2.1 dX11_add_91 rfl (lv_at hl 3 rfl) ?_
            refine ms_load C hw hS hn24 rfl dX11_add_92 (fun H locs hw hS => ?_)
            refine lv_aload_n C.1 C.2.1 dX11_add_93 rfl (lv_at hl 0 rfl) ?_
            refine mg_get C hw 5 (by decide) tb_713 rfl dX11_add_94 ?_
            refine lv_aload_n C.1 C.2.1 dX11_add_97 rfl (lv_at hl 0 rfl) ?_
            refine mg_get C hw 1 (by decide) tb_709 rfl dX11_add_98 ?_
            refine lv_iload C.1 C.2.1 dX11_add_101 (lv_at hl 4 rfl) ?_
            refine ms_share C hw hS hn24 rfl dX11_add_103 (fun H locs hw hS => ?_)
            refine lv_aload_n C.1 C.2.1 dX11_add_104 rfl (lv_at hl 0 rfl) ?_
            refine lv_dup C.1 C.2.1 dX11_add_105 rfl ?_
            refine mg_get C hw 1 (by decide) tb_709 rfl dX11_add_106 ?_
            refine lv_iconst (v := 1) C.1 C.2.1 dX11_add_109 (by decide) ?_
            refine lv_iadd C.1 C.2.1 dX11_add_110 ?_
            refine mp_many C hw hS tb_709 (n' := pn P + 1) (nI_1 (pn P)) dX11_add_111 (fun H locs hw hS => ?_)
            refine lv_aload_n C.1 C.2.1 dX11_add_114 rfl (lv_at hl 0 rfl) ?_
            refine mg_get C hw 1 (by decide) tb_709 rfl dX11_add_115 ?_
            refine lv_iconst (v := 1) C.1 C.2.1 dX11_add_118 (by decide) ?_
            refine lv_isub C.1 C.2.1 dX11_add_119 ?_
            rw [addF0_u hI.2.2.2.2.2.2.2] at hw
            rw [show addV (pn P) ki ma lo sh = nI (pn P) from (if_neg (by rw [hao]; decide)).trans (if_neg (by omega)), show addP P sz ki ma lo sh = addP0 P sz ki.toNatClampNeg from (if_neg (by rw [hao]; decide)).trans (if_neg (by omega)), show addF (pn P) F ki ma lo sh = addF0 (pn P) F ki ma lo sh from (if_neg (by rw [hao]; decide)).trans (if_neg (by omega))]
            exact ct_i C hr hlocks (by rw [nI_pred]) (fun t ht hW => mz_mk hro hw ht hW) hS (Nat.le_of_ble_eq_true rfl) (Nat.le_of_ble_eq_true rfl) dX11_add_120
          · refine lv_bipush (v := -104) C.1 C.2.1 dX11_add_60 (by decide) ?_
            have h24 : pn P = 24 := (nI_eq (b := 24) (by have := hO.1; omega) (by omega)).mp h5
            rw [show addV (pn P) ki ma lo sh = -104 from (if_neg (by rw [hao]; decide)).trans (if_pos h24), show addP P sz ki ma lo sh = P from (if_neg (by rw [hao]; decide)).trans (if_pos h24), show addF (pn P) F ki ma lo sh = F from (if_neg (by rw [hao]; decide)).trans (if_pos h24)]
            exact ct_i C hr hlocks rfl (fun t ht hW => mz_mk hro hw ht hW) hS (Nat.le_of_ble_eq_true rfl) (Nat.le_of_ble_eq_true rfl) dX11_add_62
        · refine lv_bipush (v := -102) C.1 C.2.1 dX11_add_48 (by decide) ?_
          have ha : addO ki ma lo sh = true := by unfold addO; rw [show outs sh 0 100 = true from bn_0 h4]; simp
          rw [show addV (pn P) ki ma lo sh = -102 from if_pos ha, show addP P sz ki ma lo sh = P from if_pos ha, show addF (pn P) F ki ma lo sh = F from if_pos ha]
          exact ct_i C hr hlocks rfl (fun t ht hW => mz_mk hro hw ht hW) hS (Nat.le_of_ble_eq_true rfl) (Nat.le_of_ble_eq_true rfl) dX11_add_50
