/-- the row's number at place x -/
def dkAt (dk : List Nat) (x : Int32) : Option Nat := if x < 0 then none else dk[x.toNatClampNeg]?
theorem dkAt_nI {dk : List Nat} {j : Nat} (h : j < 2 ^ 31) : dkAt dk (nI j) = dk[j]? := by
  unfold dkAt
  rw [if_neg (nI_pos h), nI_clamp h]
theorem dkAt_ge {dk : List Nat} {x : Int32} (h0 : ¬ x < 0) (h : nI dk.length ≤ x) (hL : dk.length < 2 ^ 31) : dkAt dk x = none := by
  obtain ⟨j, hj, rfl⟩ := nI_of h0
  rw [dkAt_nI hj]
  exact List.getElem?_eq_none ((nI_leI hL hj).mp h)
theorem dfd_push {P : SwP} {dk : List Nat} {i : Nat} : va_up (dfd P dk) dk.length (some (pa P i)) = dfd P (dk ++ [i]) := by
  funext k
  unfold va_up dfd
  by_cases h : k = dk.length
  · subst h
    simp
  · rw [if_neg h]
    by_cases h2 : k < dk.length
    · rw [List.getElem?_append_left h2]
    · rw [List.getElem?_append_right (by omega), List.getElem?_eq_none (by omega : dk.length ≤ k), List.getElem?_eq_none (by simp; omega)]
theorem len_push {dk : List Nat} {i : Nat} : nI dk.length + 1 = nI (dk ++ [i]).length := by
  rw [nI_1, List.length_append]; rfl
/-- the row's cells while letOff is at place j -/
def lfd (P : SwP) (dk : List Nat) (i j : Nat) : Nat → Option Nat := fun k => if k < j then (((dk.take j).filter (fun v => v != i))[k]?).map (pa P) else dfd P dk k
theorem lfd_0 {P : SwP} {dk : List Nat} {i : Nat} : lfd P dk i 0 = dfd P dk := by funext k; simp [lfd]
theorem flt_le {dk : List Nat} {i j : Nat} : ((dk.take j).filter (fun v => v != i)).length ≤ j := Nat.le_trans (List.length_filter_le _ _) (by rw [List.length_take]; exact Nat.min_le_left _ _)
theorem lfd_at {P : SwP} {dk : List Nat} {i j : Nat} : lfd P dk i j j = dfd P dk j := by simp [lfd]
theorem lfd_skip {P : SwP} {dk : List Nat} {i j : Nat} (h : (dk.take (j + 1)).filter (fun v => v != i) = (dk.take j).filter (fun v => v != i)) : va_up (lfd P dk i j) j none = lfd P dk i (j + 1) := by
  funext k
  unfold va_up lfd
  rw [h]
  have hl := flt_le (dk := dk) (i := i) (j := j)
  by_cases h1 : k = j
  · subst h1
    rw [if_pos rfl, if_pos (by omega), List.getElem?_eq_none hl]
    rfl
  · rw [if_neg h1]
    by_cases h2 : k < j
    · rw [if_pos h2, if_pos (by omega)]
    · rw [if_neg h2, if_neg (by omega)]
theorem lfd_keep {P : SwP} {dk : List Nat} {i j v : Nat} (h : (dk.take (j + 1)).filter (fun v => v != i) = (dk.take j).filter (fun v => v != i) ++ [v]) : va_up (va_up (lfd P dk i j) j none) ((dk.take j).filter (fun v => v != i)).length (some (pa P v)) = lfd P dk i (j + 1) := by
  funext k
  unfold lfd
  rw [h]
  have hl := flt_le (dk := dk) (i := i) (j := j)
  generalize (dk.take j).filter (fun v => v != i) = L at hl ⊢
  unfold va_up
  dsimp only
  by_cases h0 : k = L.length
  · subst h0
    rw [if_pos rfl, if_pos (by omega)]
    simp
  · rw [if_neg h0]
    by_cases h1 : k = j
    · subst h1
      rw [if_pos rfl, if_pos (by omega), List.getElem?_eq_none (by simp; omega)]
      rfl
    · rw [if_neg h1]
      by_cases h2 : k < j
      · rw [if_pos h2, if_pos (by omega)]
        by_cases h3 : k < L.length
        · rw [List.getElem?_append_left h3]
        · rw [List.getElem?_eq_none (by omega : L.length ≤ k), List.getElem?_eq_none (by simp; omega)]
      · rw [if_neg h2, if_neg (by omega)]
theorem lfd_end {P : SwP} {dk : List Nat} {i : Nat} (hn : dk.Nodup) (hl : dk.length ≤ 24) : lfd P dk i 24 = dfd P (dk.erase i) ∧ (dk.take 24).filter (fun v => v != i) = dk.erase i := by
  have h1 : (dk.take 24).filter (fun v => v != i) = dk.erase i := by rw [take_all hl, hn.erase_eq_filter]
  refine ⟨?_, h1⟩
  funext k
  unfold lfd
  rw [h1]
  by_cases h2 : k < 24
  · rw [if_pos h2]; rfl
  · rw [if_neg h2]
    have h3 : (dk.erase i).length ≤ dk.length := List.length_erase_le
    unfold dfd
    rw [List.getElem?_eq_none (by omega : dk.length ≤ k), List.getElem?_eq_none (by omega : (dk.erase i).length ≤ k)]
theorem flt_none {dk : List Nat} {i j : Nat} (h : dk[j]? = none) : (dk.take (j + 1)).filter (fun v => v != i) = (dk.take j).filter (fun v => v != i) := by rw [take_none h]
theorem flt_eq {dk : List Nat} {i j : Nat} (h : dk[j]? = some i) : (dk.take (j + 1)).filter (fun v => v != i) = (dk.take j).filter (fun v => v != i) := by rw [take_some h]; simp
theorem flt_ne {dk : List Nat} {i j v : Nat} (h : dk[j]? = some v) (hv : v ≠ i) : (dk.take (j + 1)).filter (fun v => v != i) = (dk.take j).filter (fun v => v != i) ++ [v] := by rw [take_some h]; simp [hv]
theorem any_take {dk : List Nat} {q : Nat → Bool} {j v : Nat} (h : dk[j]? = some v) (hv : q v = true) : dk.any q = true := List.any_eq_true.mpr ⟨v, List.mem_of_getElem? h, hv⟩
theorem any_none {dk : List Nat} {q : Nat → Bool} (h : ∀ v, v ∈ dk → q v = false) : dk.any q = false := by
  rw [List.any_eq_false]
  intro v hv
  rw [h v hv]
  decide
set_option maxHeartbeats 400000 in
set_option maxRecDepth 100000 in
/-- the vehicle at a place of the deck, or null -/
theorem c_X0_at (l : Launch) (D : va_G) (A : Nat → Prop) (P : SwP) (F : Nat → Nat → Int32) (B G : Nat → Int32) (dk : List Nat) (hO : Ok P F dk) (x : Int32) : Ct l yX0_at (.code yX0_at cX0_at 2 (some (.object "SwingBridge$Cart"))) ({ frames := 0, cells := 0, slots := 0, locals := 0 }) A [.ref (pB P), .int x] (Xp D A P F B G dk) (.inl (some (va_rf ((dkAt dk x).map (pa P))))) (Xp D A P F B G dk) := by
  refine ct_mk (by decide) (Nat.le_of_ble_eq_true rfl) (fun p e s m below meth c ls C hr hlocks hnm htab hP hl => ?_)
  have hw := hP
  have hS : va_S A s.heap s.heap [] := va_S.rf
  have hl : lv_has ls 2 [(0, .ref (pB P)), (1, .int x)] := hl
  have hL := hO.len
  refine lv_iload_n C.1 C.2.1 dX0_at_0 rfl (lv_at hl 1 rfl) ?_
  refine lv_if_lt (tgt := 21) C.1 C.2.1 dX0_at_1 (by decide) (fun h1 => ?_) (fun h1 => ?_)
  · refine lv_null C.1 C.2.1 dX0_at_21 ?_
    exact ct_a (r := none) C hr (Or.inl ⟨_, rfl⟩) hlocks (by rw [show dkAt dk x = none from if_pos h1]; rfl) (fun t ht hW => x_post hw ht hW) hS (Nat.le_of_ble_eq_true rfl) (Nat.le_of_ble_eq_true rfl) dX0_at_22
  · refine lv_iload_n C.1 C.2.1 dX0_at_4 rfl (lv_at hl 1 rfl) ?_
    refine lv_aload_n C.1 C.2.1 dX0_at_5 rfl (lv_at hl 0 rfl) ?_
    refine xb_get C hw 2 (by decide) tb_47 rfl dX0_at_6 ?_
    refine lv_icmp_ge (tgt := 21) C.1 C.2.1 dX0_at_9 (by decide) (fun h2 => ?_) (fun h2 => ?_)
    · refine lv_null C.1 C.2.1 dX0_at_21 ?_
      exact ct_a (r := none) C hr (Or.inl ⟨_, rfl⟩) hlocks (by rw [dkAt_ge h1 h2 (by omega)]; rfl) (fun t ht hW => x_post hw ht hW) hS (Nat.le_of_ble_eq_true rfl) (Nat.le_of_ble_eq_true rfl) dX0_at_22
    · refine lv_iload_n C.1 C.2.1 dX0_at_12 rfl (lv_at hl 1 rfl) ?_
      refine lv_aload_n C.1 C.2.1 dX0_at_13 rfl (lv_at hl 0 rfl) ?_
      refine xb_get C hw 0 (by decide) tb_35 rfl dX0_at_14 ?_
      refine xD_len C hw dX0_at_17 ?_
      refine lv_icmp_lt (tgt := 23) C.1 C.2.1 dX0_at_18 (by decide) (fun h3 => ?_) (fun h3 => ?_)
      · obtain ⟨j, hj, rfl, -⟩ := pk_mu h1 h2 (by omega)
        refine lv_aload_n C.1 C.2.1 dX0_at_23 rfl (lv_at hl 0 rfl) ?_
        refine xb_get C hw 0 (by decide) tb_35 rfl dX0_at_24 ?_
        refine lv_iload_n C.1 C.2.1 dX0_at_27 rfl (lv_at hl 1 rfl) ?_
        refine xD_ld C hw (show j < 24 by omega) rfl dX0_at_28 ?_
        exact ct_a (r := dfd P dk j) C hr (Or.inl ⟨_, rfl⟩) hlocks (by rw [dkAt_nI (by omega)]; rfl) (fun t ht hW => x_post hw ht hW) hS (Nat.le_of_ble_eq_true rfl) (Nat.le_of_ble_eq_true rfl) dX0_at_29
      · refine lv_null C.1 C.2.1 dX0_at_21 ?_
        obtain ⟨j, hj, rfl, -⟩ := pk_mu h1 h2 (by omega)
        exact absurd (nI_lt (b := 24) (by omega) (by omega)) h3
set_option maxHeartbeats 400000 in
set_option maxRecDepth 100000 in
/-- whether one on the deck is of kind 6 or 7 -/
theorem c_X0_bearsBus (l : Launch) (D : va_G) (A : Nat → Prop) (P : SwP) (F : Nat → Nat → Int32) (B G : Nat → Int32) (dk : List Nat) (hO : Ok P F dk) : Ct l yX0_bearsBus (.code yX0_bearsBus cX0_bearsBus 3 (some .boolean)) ({ frames := 0, cells := 0, slots := 0, locals := 0 }) A [.ref (pB P)] (Xp D A P F B G dk) (.inl (some (.int (b2i (dk.any (fun v => isBus (pk P v))))))) (Xp D A P F B G dk) := by
  refine ct_mk (by decide) (Nat.le_of_ble_eq_true rfl) (fun p e s m below meth c ls C hr hlocks hnm htab hP hl => ?_)
  have hw := hP
  have hS : va_S A s.heap s.heap [] := va_S.rf
  have hl : lv_has ls 3 [(0, .ref (pB P))] := hl
  have hL := hO.len
  have loop : ∀ (k j : Nat), j + k = 24 → (∀ v, v ∈ dk.take j → isBus (pk P v) = false) → ∀ (x : Int32), x = nI j → ∀ ls : Array Slot, lv_has ls 3 [(1, .int x), (0, .ref (pB P))] → W p l e ({ frames := 0, cells := 0, slots := 0, locals := 0 }) s m ([.ref (pB P)] : List Value).toArray below meth c s.heap [] 0 0 (CtQ below s ([.ref (pB P)] : List Value).toArray ({ frames := 0, cells := 0, slots := 0, locals := 0 }) A (.inl (some (.int (b2i (dk.any (fun v => isBus (pk P v))))))) (Xp D A P F B G dk)) (F0 m 2 ls []) := by
    intro k
    induction k with
    | zero =>
      intro j hj hno x hx ls hl
      have hj : j = 24 := by omega
      subst hj
      refine lv_iload_n C.1 C.2.1 dX0_bearsBus_2 rfl (lv_at hl 0 rfl) ?_
      refine lv_aload_n C.1 C.2.1 dX0_bearsBus_3 rfl (lv_at hl 1 rfl) ?_
      refine xb_get C hw 0 (by decide) tb_35 rfl dX0_bearsBus_4 ?_
      refine xD_len C hw dX0_bearsBus_7 ?_
      refine lv_icmp_ge (tgt := 48) C.1 C.2.1 dX0_bearsBus_8 (by decide) (fun h1 => ?_) (fun h1 => ?_)
      · refine lv_iconst (v := 0) C.1 C.2.1 dX0_bearsBus_48 (by decide) ?_
        exact ct_z C hr hlocks (Or.inl rfl) (by rw [any_none (fun v hv => hno v (by rw [take_all hL]; exact hv))]; rfl) (fun t ht hW => x_post hw ht hW) hS (Nat.le_of_ble_eq_true rfl) (Nat.le_of_ble_eq_true rfl) dX0_bearsBus_49
      · exact absurd (by rw [hx]; exact nI_le (Nat.le_refl 24) (by omega)) h1
    | succ k ih =>
      intro j hj hno x hx ls hl
      refine lv_iload_n C.1 C.2.1 dX0_bearsBus_2 rfl (lv_at hl 0 rfl) ?_
      refine lv_aload_n C.1 C.2.1 dX0_bearsBus_3 rfl (lv_at hl 1 rfl) ?_
      refine xb_get C hw 0 (by decide) tb_35 rfl dX0_bearsBus_4 ?_
      refine xD_len C hw dX0_bearsBus_7 ?_
      refine lv_icmp_ge (tgt := 48) C.1 C.2.1 dX0_bearsBus_8 (by decide) (fun h1 => ?_) (fun h1 => ?_)
      · exact absurd (by rw [hx] at h1; exact h1) (nI_ge (a := j) (b := 24) (by omega) (by omega))
      · refine lv_aload_n C.1 C.2.1 dX0_bearsBus_11 rfl (lv_at hl 1 rfl) ?_
        refine xb_get C hw 0 (by decide) tb_35 rfl dX0_bearsBus_12 ?_
        refine lv_iload_n C.1 C.2.1 dX0_bearsBus_15 rfl (lv_at hl 0 rfl) ?_
        rcases hdj : dk[j]? with _ | v
        · refine xD_ldN C hw (show j < 24 by omega) hx (show dfd P dk j = none by simp [dfd, hdj]) dX0_bearsBus_16 ?_
          refine lv_astore_nN (lv' := [(2, .null), (1, .int (x)), (0, .ref (pB P))]) C.1 C.2.1 dX0_bearsBus_17 rfl hl (by decide) rfl (fun ls hl => ?_)
          refine lv_aload_nN C.1 C.2.1 dX0_bearsBus_18 rfl (lv_at hl 0 rfl) ?_
          refine lv_ifnullN (tgt := 42) C.1 C.2.1 dX0_bearsBus_19 (by decide) ?_
          obtain ⟨x1, ex1⟩ : ∃ z : Int32, z = x + 1 := ⟨_, rfl⟩
          refine lv_iinc (v := x1) (lv' := [(1, .int (x1)), (2, .null), (0, .ref (pB P))]) C.1 C.2.1 dX0_bearsBus_42 hl (k := 1) rfl (by rw [ex1]; rfl) (by decide) rfl (fun ls hl => ?_)
          refine lv_goto (tgt := 2) C.1 C.2.1 dX0_bearsBus_45 (by decide) ?_
          exact ih (j + 1) (by omega) (by rw [take_none hdj]; exact hno) x1 (by rw [ex1, hx]; exact nI_1 j) ls (lv_sub hl [0, 2] rfl)
        · obtain ⟨hv, hkv⟩ := hO.v hdj
          refine xD_ldS C hw (show j < 24 by omega) hx (show dfd P dk j = some (pa P v) by simp [dfd, hdj]) dX0_bearsBus_16 ?_
          refine lv_astore_n (lv' := [(2, .ref (pa P v)), (1, .int (x)), (0, .ref (pB P))]) C.1 C.2.1 dX0_bearsBus_17 rfl hl (by decide) rfl (fun ls hl => ?_)
          refine lv_aload_n C.1 C.2.1 dX0_bearsBus_18 rfl (lv_at hl 0 rfl) ?_
          refine lv_ifnull C.1 C.2.1 dX0_bearsBus_19 ?_
          refine lv_aload_n C.1 C.2.1 dX0_bearsBus_22 rfl (lv_at hl 0 rfl) ?_
          refine xv_get C hw hv hkv 2 (by decide) tb_130 (Or.inl rfl) rfl dX0_bearsBus_23 ?_
          refine lv_bipush (v := 6) C.1 C.2.1 dX0_bearsBus_26 (by decide) ?_
          refine lv_icmp_eq (tgt := 40) C.1 C.2.1 dX0_bearsBus_28 (by decide) (fun h2 => ?_) (fun h2 => ?_)
          · have hb : isBus (pk P v) = true := by
              have h9 := hO.2.1 v hv
              have h8 : pk P v = 6 := (nI_eq (by omega) (by omega)).mp ((hO.2.2.1 v hv).symm.trans h2)
              simp [isBus, h8]
            refine lv_iconst (v := 1) C.1 C.2.1 dX0_bearsBus_40 (by decide) ?_
            exact ct_z C hr hlocks (Or.inr rfl) (by rw [any_take hdj hb]; rfl) (fun t ht hW => x_post hw ht hW) hS (Nat.le_of_ble_eq_true rfl) (Nat.le_of_ble_eq_true rfl) dX0_bearsBus_41
          · refine lv_aload_n C.1 C.2.1 dX0_bearsBus_31 rfl (lv_at hl 0 rfl) ?_
            refine xv_get C hw hv hkv 2 (by decide) tb_130 (Or.inl rfl) rfl dX0_bearsBus_32 ?_
            refine lv_bipush (v := 7) C.1 C.2.1 dX0_bearsBus_35 (by decide) ?_
            refine lv_icmp_ne (tgt := 42) C.1 C.2.1 dX0_bearsBus_37 (by decide) (fun h3 => ?_) (fun h3 => ?_)
            · have hb : isBus (pk P v) = false := by
                have h9 := hO.2.1 v hv
                have h6 : pk P v ≠ 6 := fun q => h2 (by rw [hO.2.2.1 v hv, q]; rfl)
                have h7 : pk P v ≠ 7 := fun q => h3 (by rw [hO.2.2.1 v hv, q]; rfl)
                simp [isBus, h6, h7]
              obtain ⟨x1, ex1⟩ : ∃ z : Int32, z = x + 1 := ⟨_, rfl⟩
              refine lv_iinc (v := x1) (lv' := [(1, .int (x1)), (2, .ref (pa P v)), (0, .ref (pB P))]) C.1 C.2.1 dX0_bearsBus_42 hl (k := 1) rfl (by rw [ex1]; rfl) (by decide) rfl (fun ls hl => ?_)
              refine lv_goto (tgt := 2) C.1 C.2.1 dX0_bearsBus_45 (by decide) ?_
              exact ih (j + 1) (by omega) (by rw [take_some hdj]; intro u hu; rcases List.mem_append.mp hu with q | q; exact hno u q; rw [List.mem_singleton.mp q]; exact hb) x1 (by rw [ex1, hx]; exact nI_1 j) ls (lv_sub hl [0, 2] rfl)
            · have hb : isBus (pk P v) = true := by
                have h9 := hO.2.1 v hv
                have h8 : pk P v = 7 := (nI_eq (by omega) (by omega)).mp ((hO.2.2.1 v hv).symm.trans h3)
                simp [isBus, h8]
              refine lv_iconst (v := 1) C.1 C.2.1 dX0_bearsBus_40 (by decide) ?_
              exact ct_z C hr hlocks (Or.inr rfl) (by rw [any_take hdj hb]; rfl) (fun t ht hW => x_post hw ht hW) hS (Nat.le_of_ble_eq_true rfl) (Nat.le_of_ble_eq_true rfl) dX0_bearsBus_41
  refine lv_iconst (v := 0) C.1 C.2.1 dX0_bearsBus_0 (by decide) ?_
  refine lv_istore_n (lv' := [(1, .int (0)), (0, .ref (pB P))]) C.1 C.2.1 dX0_bearsBus_1 rfl hl (by decide) rfl (fun ls hl => ?_)
  exact loop 24 0 rfl (fun v hv => by simp at hv) 0 nI_0.symm ls hl
set_option maxHeartbeats 400000 in
set_option maxRecDepth 100000 in
/-- a vehicle comes behind the others -/
theorem c_X0_takeOn (l : Launch) (D : va_G) (A : Nat → Prop) (P : SwP) (F : Nat → Nat → Int32) (B G : Nat → Int32) (dk : List Nat) (hO : Ok P F dk) (hn : dk.length < 24) (i : Nat) (hi : i < pn P) (hk : pk P i < 9) : Ct l yX0_takeOn (.code yX0_takeOn cX0_takeOn 3 none) ({ frames := 0, cells := 0, slots := 0, locals := 0 }) A [.ref (pB P), .ref (pa P i)] (fun U => Asg U ∧ Xp D A P F B G dk U) (.inl none) (Xp D A P F B G (dk ++ [i])) := by
  refine ct_mk (by decide) (Nat.le_of_ble_eq_true rfl) (fun p e s m below meth c ls C hr hlocks hnm htab hP hl => ?_)
  obtain ⟨hg, hw⟩ := hP
  have hS : va_S A s.heap s.heap [] := va_S.rf
  have hl : lv_has ls 3 [(0, .ref (pB P)), (1, .ref (pa P i))] := hl
  refine lv_aload_n C.1 C.2.1 dX0_takeOn_0 rfl (lv_at hl 0 rfl) ?_
  refine xb_get C hw 2 (by decide) tb_47 rfl dX0_takeOn_1 ?_
  refine lv_istore_n (lv' := [(2, .int (nI dk.length)), (0, .ref (pB P)), (1, .ref (pa P i))]) C.1 C.2.1 dX0_takeOn_4 rfl hl (by decide) rfl (fun ls hl => ?_)
  refine lv_iload_n C.1 C.2.1 dX0_takeOn_5 rfl (lv_at hl 0 rfl) ?_
  refine lv_if_lt (tgt := 32) C.1 C.2.1 dX0_takeOn_6 (by decide) (fun h1 => absurd h1 (nI_pos (by omega))) (fun h1 => ?_)
  refine lv_iload_n C.1 C.2.1 dX0_takeOn_9 rfl (lv_at hl 0 rfl) ?_
  refine lv_aload_n C.1 C.2.1 dX0_takeOn_10 rfl (lv_at hl 1 rfl) ?_
  refine xb_get C hw 0 (by decide) tb_35 rfl dX0_takeOn_11 ?_
  refine xD_len C hw dX0_takeOn_14 ?_
  refine lv_icmp_ge (tgt := 32) C.1 C.2.1 dX0_takeOn_15 (by decide) (fun h2 => absurd h2 (nI_ge (b := 24) hn (by omega))) (fun h2 => ?_)
  refine lv_aload_n C.1 C.2.1 dX0_takeOn_18 rfl (lv_at hl 1 rfl) ?_
  refine xb_get C hw 0 (by decide) tb_35 rfl dX0_takeOn_19 ?_
  refine lv_iload_n C.1 C.2.1 dX0_takeOn_22 rfl (lv_at hl 0 rfl) ?_
  refine lv_aload_n C.1 C.2.1 dX0_takeOn_23 rfl (lv_at hl 2 rfl) ?_
  refine xD_st C hw hS hg hi hk hn rfl dX0_takeOn_24 (fun H locs hw hS => ?_)
  refine lv_aload_n C.1 C.2.1 dX0_takeOn_25 rfl (lv_at hl 1 rfl) ?_
  refine lv_iload_n C.1 C.2.1 dX0_takeOn_26 rfl (lv_at hl 0 rfl) ?_
  refine lv_iconst (v := 1) C.1 C.2.1 dX0_takeOn_27 (by decide) ?_
  refine lv_iadd C.1 C.2.1 dX0_takeOn_28 ?_
  refine xb_putn C hw hS tb_47 dX0_takeOn_29 (fun H locs hw hS => ?_)
  rw [dfd_push, len_push] at hw
  exact ct_v C hr hlocks rfl (fun t ht hW => x_post hw ht hW) hS (Nat.le_of_ble_eq_true rfl) (Nat.le_of_ble_eq_true rfl) dX0_takeOn_32
set_option maxHeartbeats 400000 in
set_option maxRecDepth 100000 in
/-- a vehicle goes off, the others keep their order -/
theorem c_X0_letOff (l : Launch) (D : va_G) (A : Nat → Prop) (P : SwP) (F : Nat → Nat → Int32) (B G : Nat → Int32) (dk : List Nat) (hO : Ok P F dk) (i : Nat) (hi : i < pn P) (hk : pk P i < 9) : Ct l yX0_letOff (.code yX0_letOff cX0_letOff 5 none) ({ frames := 0, cells := 0, slots := 0, locals := 0 }) A [.ref (pB P), .ref (pa P i)] (fun U => Asg U ∧ Xp D A P F B G dk U) (.inl none) (Xp D A P F B G (dk.erase i)) := by
  refine ct_mk (by decide) (Nat.le_of_ble_eq_true rfl) (fun p e s m below meth c ls C hr hlocks hnm htab hP hl => ?_)
  obtain ⟨hg, hw⟩ := hP
  have hS : va_S A s.heap s.heap [] := va_S.rf
  have hl : lv_has ls 5 [(0, .ref (pB P)), (1, .ref (pa P i))] := hl
  have hL := hO.len
  have loop : ∀ (k j : Nat), j + k = 24 → ∀ (x y : Int32), x = nI j → y = nI ((dk.take j).filter (fun v => v != i)).length → ∀ (H : Heap) (locs : List Loc), XwR D A P F B G (nI dk.length) (lfd P dk i j) s H → va_S A s.heap H locs → ∀ ls : Array Slot, lv_has ls 5 [(3, .int x), (2, .int y), (0, .ref (pB P)), (1, .ref (pa P i))] → W p l e ({ frames := 0, cells := 0, slots := 0, locals := 0 }) s m ([.ref (pB P), .ref (pa P i)] : List Value).toArray below meth c H locs 0 0 (CtQ below s ([.ref (pB P), .ref (pa P i)] : List Value).toArray ({ frames := 0, cells := 0, slots := 0, locals := 0 }) A (.inl none) (Xp D A P F B G (dk.erase i))) (F0 m 4 ls []) := by
    intro k
    induction k with
    | zero =>
      intro j hj x y hx hy H locs hw hS ls hl
      have hj : j = 24 := by omega
      subst hj
      refine lv_iload_n C.1 C.2.1 dX0_letOff_4 rfl (lv_at hl 0 rfl) ?_
      refine lv_aload_n C.1 C.2.1 dX0_letOff_5 rfl (lv_at hl 2 rfl) ?_
      refine xb_get C hw 0 (by decide) tb_35 rfl dX0_letOff_6 ?_
      refine xD_len C hw dX0_letOff_9 ?_
      refine lv_icmp_ge (tgt := 62) C.1 C.2.1 dX0_letOff_10 (by decide) (fun h1 => ?_) (fun h1 => ?_)
      · refine lv_aload_n C.1 C.2.1 dX0_letOff_62 rfl (lv_at hl 2 rfl) ?_
        refine lv_iload_n C.1 C.2.1 dX0_letOff_63 rfl (lv_at hl 1 rfl) ?_
        refine xb_putn C hw hS tb_47 dX0_letOff_64 (fun H locs hw hS => ?_)
        obtain ⟨q1, q2⟩ := lfd_end (P := P) (i := i) hO.2.2.2.2 hL
        rw [hy, q2, q1] at hw
        exact ct_v C hr hlocks rfl (fun t ht hW => x_post hw ht hW) hS (Nat.le_of_ble_eq_true rfl) (Nat.le_of_ble_eq_true rfl) dX0_letOff_67
      · exact absurd (by rw [hx]; exact nI_le (Nat.le_refl 24) (by omega)) h1
    | succ k ih =>
      intro j hj x y hx hy H locs hw hS ls hl
      have hc := flt_le (dk := dk) (i := i) (j := j)
      refine lv_iload_n C.1 C.2.1 dX0_letOff_4 rfl (lv_at hl 0 rfl) ?_
      refine lv_aload_n C.1 C.2.1 dX0_letOff_5 rfl (lv_at hl 2 rfl) ?_
      refine xb_get C hw 0 (by decide) tb_35 rfl dX0_letOff_6 ?_
      refine xD_len C hw dX0_letOff_9 ?_
      refine lv_icmp_ge (tgt := 62) C.1 C.2.1 dX0_letOff_10 (by decide) (fun h1 => ?_) (fun h1 => ?_)
      · exact absurd (by rw [hx] at h1; exact h1) (nI_ge (a := j) (b := 24) (by omega) (by omega))
      · refine lv_aload_n C.1 C.2.1 dX0_letOff_13 rfl (lv_at hl 2 rfl) ?_
        refine xb_get C hw 0 (by decide) tb_35 rfl dX0_letOff_14 ?_
        refine lv_iload_n C.1 C.2.1 dX0_letOff_17 rfl (lv_at hl 0 rfl) ?_
        rcases hdj : dk[j]? with _ | v
        · refine xD_ldN C hw (show j < 24 by omega) hx (by rw [lfd_at]; simp [dfd, hdj]) dX0_letOff_18 ?_
          refine lv_astoreN (lv' := [(4, .null), (3, .int (x)), (2, .int (y)), (0, .ref (pB P)), (1, .ref (pa P i))]) C.1 C.2.1 dX0_letOff_19 hl (by decide) rfl (fun ls hl => ?_)
          refine lv_aload_n C.1 C.2.1 dX0_letOff_21 rfl (lv_at hl 3 rfl) ?_
          refine xb_get C hw 0 (by decide) tb_35 rfl dX0_letOff_22 ?_
          refine lv_iload_n C.1 C.2.1 dX0_letOff_25 rfl (lv_at hl 1 rfl) ?_
          refine lv_null C.1 C.2.1 dX0_letOff_26 ?_
          refine xD_stN C hw hS (show j < 24 by omega) hx dX0_letOff_27 (fun H locs hw hS => ?_)
          refine lv_aloadN C.1 C.2.1 dX0_letOff_28 (lv_at hl 0 rfl) ?_
          refine lv_ifnullN (tgt := 56) C.1 C.2.1 dX0_letOff_30 (by decide) ?_
          obtain ⟨x1, ex1⟩ : ∃ z : Int32, z = x + 1 := ⟨_, rfl⟩
          refine lv_iinc (v := x1) (lv' := [(3, .int (x1)), (4, .null), (2, .int (y)), (0, .ref (pB P)), (1, .ref (pa P i))]) C.1 C.2.1 dX0_letOff_56 hl (k := 1) rfl (by rw [ex1]; rfl) (by decide) rfl (fun ls hl => ?_)
          refine lv_goto (tgt := 4) C.1 C.2.1 dX0_letOff_59 (by decide) ?_
          rw [lfd_skip (flt_none hdj)] at hw
          exact ih (j + 1) (by omega) x1 y (by rw [ex1, hx]; exact nI_1 j) (by rw [flt_none hdj]; exact hy) H locs hw hS ls (lv_sub hl [0, 2, 3, 4] rfl)
        · obtain ⟨hv, hkv⟩ := hO.v hdj
          refine xD_ldS C hw (show j < 24 by omega) hx (show lfd P dk i j j = some (pa P v) by rw [lfd_at]; simp [dfd, hdj]) dX0_letOff_18 ?_
          refine lv_astore (lv' := [(4, .ref (pa P v)), (3, .int (x)), (2, .int (y)), (0, .ref (pB P)), (1, .ref (pa P i))]) C.1 C.2.1 dX0_letOff_19 hl (by decide) rfl (fun ls hl => ?_)
          refine lv_aload_n C.1 C.2.1 dX0_letOff_21 rfl (lv_at hl 3 rfl) ?_
          refine xb_get C hw 0 (by decide) tb_35 rfl dX0_letOff_22 ?_
          refine lv_iload_n C.1 C.2.1 dX0_letOff_25 rfl (lv_at hl 1 rfl) ?_
          refine lv_null C.1 C.2.1 dX0_letOff_26 ?_
          refine xD_stN C hw hS (show j < 24 by omega) hx dX0_letOff_27 (fun H locs hw hS => ?_)
          refine lv_aload C.1 C.2.1 dX0_letOff_28 (lv_at hl 0 rfl) ?_
          refine lv_ifnull C.1 C.2.1 dX0_letOff_30 ?_
          refine lv_aload C.1 C.2.1 dX0_letOff_33 (lv_at hl 0 rfl) ?_
          refine xv_get C hw hv hkv 1 (by decide) tb_127 (Or.inl rfl) rfl dX0_letOff_35 ?_
          refine lv_aload_n C.1 C.2.1 dX0_letOff_38 rfl (lv_at hl 4 rfl) ?_
          refine xv_get C hw hi hk 1 (by decide) tb_127 (Or.inl rfl) rfl dX0_letOff_39 ?_
          refine lv_icmp_eq (tgt := 56) C.1 C.2.1 dX0_letOff_42 (by decide) (fun h2 => ?_) (fun h2 => ?_)
          · obtain ⟨x1, ex1⟩ : ∃ z : Int32, z = x + 1 := ⟨_, rfl⟩
            refine lv_iinc (v := x1) (lv' := [(3, .int (x1)), (4, .ref (pa P v)), (2, .int (y)), (0, .ref (pB P)), (1, .ref (pa P i))]) C.1 C.2.1 dX0_letOff_56 hl (k := 1) rfl (by rw [ex1]; rfl) (by decide) rfl (fun ls hl => ?_)
            refine lv_goto (tgt := 4) C.1 C.2.1 dX0_letOff_59 (by decide) ?_
            have hvi : v = i := (nI_eq (by have := hO.1; omega) (by have := hO.1; omega)).mp h2
            subst hvi
            rw [lfd_skip (flt_eq hdj)] at hw
            exact ih (j + 1) (by omega) x1 y (by rw [ex1, hx]; exact nI_1 j) (by rw [flt_eq hdj]; exact hy) H locs hw hS ls (lv_sub hl [0, 2, 3, 4] rfl)
          · refine lv_aload_n C.1 C.2.1 dX0_letOff_45 rfl (lv_at hl 3 rfl) ?_
            refine xb_get C hw 0 (by decide) tb_35 rfl dX0_letOff_46 ?_
            refine lv_iload_n C.1 C.2.1 dX0_letOff_49 rfl (lv_at hl 2 rfl) ?_
            refine lv_aload C.1 C.2.1 dX0_letOff_50 (lv_at hl 0 rfl) ?_
            have hvi : v ≠ i := fun q => h2 (by rw [q])
            refine xD_st C hw hS hg hv hkv (show ((dk.take j).filter (fun v => v != i)).length < 24 by omega) hy dX0_letOff_52 (fun H locs hw hS => ?_)
            obtain ⟨y1, ey1⟩ : ∃ z : Int32, z = y + 1 := ⟨_, rfl⟩
            refine lv_iinc (v := y1) (lv' := [(2, .int (y1)), (4, .ref (pa P v)), (3, .int (x)), (0, .ref (pB P)), (1, .ref (pa P i))]) C.1 C.2.1 dX0_letOff_53 hl (k := 2) rfl (by rw [ey1]; rfl) (by decide) rfl (fun ls hl => ?_)
            obtain ⟨x1, ex1⟩ : ∃ z : Int32, z = x + 1 := ⟨_, rfl⟩
            refine lv_iinc (v := x1) (lv' := [(3, .int (x1)), (2, .int (y1)), (4, .ref (pa P v)), (0, .ref (pB P)), (1, .ref (pa P i))]) C.1 C.2.1 dX0_letOff_56 hl (k := 2) rfl (by rw [ex1]; rfl) (by decide) rfl (fun ls hl => ?_)
            refine lv_goto (tgt := 4) C.1 C.2.1 dX0_letOff_59 (by decide) ?_
            rw [lfd_keep (flt_ne hdj hvi)] at hw
            exact ih (j + 1) (by omega) x1 y1 (by rw [ex1, hx]; exact nI_1 j) (by rw [flt_ne hdj hvi, ey1, hy, List.length_append]; exact nI_1 _) H locs hw hS ls (lv_sub hl [0, 1, 3, 4] rfl)
  refine lv_iconst (v := 0) C.1 C.2.1 dX0_letOff_0 (by decide) ?_
  refine lv_istore_n (lv' := [(2, .int (0)), (0, .ref (pB P)), (1, .ref (pa P i))]) C.1 C.2.1 dX0_letOff_1 rfl hl (by decide) rfl (fun ls hl => ?_)
  refine lv_iconst (v := 0) C.1 C.2.1 dX0_letOff_2 (by decide) ?_
  refine lv_istore_n (lv' := [(3, .int (0)), (2, .int (0)), (0, .ref (pB P)), (1, .ref (pa P i))]) C.1 C.2.1 dX0_letOff_3 rfl hl (by decide) rfl (fun ls hl => ?_)
  have hw : XwR D A P F B G (nI dk.length) (lfd P dk i 0) s s.heap := by rw [lfd_0]; exact hw
  exact loop 24 0 rfl 0 0 nI_0.symm (by simp; rfl) _ _ hw hS ls (lv_sub hl [0, 1, 2, 3] rfl)
