theorem drop_none {dk : List Nat} {j : Nat} (h : dk[j]? = none) : dk.drop j = [] ∧ dk.drop (j + 1) = [] := by
  have h1 := List.getElem?_eq_none_iff.mp h
  exact ⟨List.drop_of_length_le h1, List.drop_of_length_le (by omega)⟩
theorem drop_some {dk : List Nat} {j v : Nat} (h : dk[j]? = some v) : dk.drop j = v :: dk.drop (j + 1) := by
  obtain ⟨hl, hv⟩ := List.getElem?_eq_some_iff.mp h
  rw [List.drop_eq_getElem_cons hl, hv]
theorem b2i_z (b : Bool) : b2i b = 0 ∨ b2i b = 1 := by cases b; exact Or.inl rfl; exact Or.inr rfl
theorem b2i_0 {b : Bool} (h : b2i b = 0) : b = false := by cases b; rfl; exact absurd h (by decide)
theorem b2i_1 {b : Bool} (h : ¬ b2i b = 0) : b = true := by cases b; exact absurd rfl h; rfl
theorem nI_len0 {dk : List Nat} (h : nI dk.length = 0) (hL : dk.length ≤ 24) : dk = [] := by
  cases dk with
  | nil => rfl
  | cons a t => exact absurd h (nI_ne0 (by simp) (by omega))
set_option maxHeartbeats 400000 in
set_option maxRecDepth 100000 in
/-- FIT by CART -/
theorem c_X4_fitAct (l : Launch) (D : va_G) (A : Nat → Prop) (P : SwP) (F : Nat → Nat → Int32) (B G : Nat → Int32) (dk : List Nat) (i : Nat) (hO : Ok P F dk) (hi : i < pn P) (hk : pk P i < 9) : Ct l yX4_fitAct (.code yX4_fitAct cX4_fitAct 4 (some .boolean)) ({ frames := 3, cells := 0, slots := 0, locals := 60 }) A [.ref (pa P i)] (Xp D A P F B G dk) (.inl (some (.int (b2i (fP (pk P) F G dk i))))) (Xp D A P F (fPB (pk P) dk i B) G dk) := by
  refine ct_mk (by decide) (Nat.le_of_ble_eq_true rfl) (fun p e s m below meth c ls C hr hlocks hnm htab hP hl => ?_)
  have hw := hP
  have hS : va_S A s.heap s.heap [] := va_S.rf
  have hl : lv_has ls 4 [(0, .ref (pa P i))] := hl
  have hL := hO.len
  have loop : ∀ (k j : Nat), j + k = 24 → ∀ (x y : Int32) (B1 : Nat → Int32), x = nI j → sumW (pk P) F (dk.drop j) y = sumW (pk P) F dk 0 → sumB (pk P) (dk.drop j) B1 = sumB (pk P) dk (iB B 0) → ∀ (H : Heap) (locs : List Loc), XwR D A P F B1 G (nI dk.length) (dfd P dk) s H → va_S A s.heap H locs → ∀ ls : Array Slot, lv_has ls 4 [(2, .int x), (1, .int y), (0, .ref (pa P i))] → W p l e ({ frames := 3, cells := 0, slots := 0, locals := 60 }) s m ([.ref (pa P i)] : List Value).toArray below meth c H locs 0 0 (CtQ below s ([.ref (pa P i)] : List Value).toArray ({ frames := 3, cells := 0, slots := 0, locals := 60 }) A (.inl (some (.int (b2i (fP (pk P) F G dk i))))) (Xp D A P F (fPB (pk P) dk i B) G dk)) (F0 m 17 ls []) := by
    intro k
    induction k with
    | zero =>
      intro j hj x y B1 hx hy hB H locs hw hS ls hl
      have hj : j = 24 := by omega
      subst hj
      rw [List.drop_of_length_le hL] at hy hB
      refine lv_iload_n C.1 C.2.1 dX4_fitAct_17 rfl (lv_at hl 0 rfl) ?_
      refine lv_aload_n C.1 C.2.1 dX4_fitAct_18 rfl (lv_at hl 2 rfl) ?_
      refine xv_get C hw hi hk 0 (by decide) tb_111 (Or.inl rfl) rfl dX4_fitAct_19 ?_
      refine xb_get C hw 0 (by decide) tb_36 rfl dX4_fitAct_22 ?_
      refine xD_len C hw dX4_fitAct_25 ?_
      refine lv_icmp_ge (tgt := 56) C.1 C.2.1 dX4_fitAct_26 (by decide) (fun h1 => ?_) (fun h1 => ?_)
      · refine lv_iload_n C.1 C.2.1 dX4_fitAct_56 rfl (lv_at hl 1 rfl) ?_
        refine lv_aload_n C.1 C.2.1 dX4_fitAct_57 rfl (lv_at hl 2 rfl) ?_
        refine ct_ret (v_weight C hw hi hk tb_375 hl.1 dX4_fitAct_58 ⟨Nat.le_of_ble_eq_true rfl, Nat.le_of_ble_eq_true rfl⟩ (Nat.le_of_ble_eq_true rfl) ⟨Nat.le_of_ble_eq_true rfl, Nat.le_of_ble_eq_true rfl⟩) hS (fun _ h => h) (fun t H locs ht hvm hw _ _ hS => ?_)
        have hw := x_back hw ht hvm
        refine lv_iadd C.1 C.2.1 dX4_fitAct_61 ?_
        refine lv_istore_n (lv' := [(1, .int ((y) + (wR (pk P i) F i))), (2, .int (x)), (0, .ref (pa P i))]) C.1 C.2.1 dX4_fitAct_62 rfl hl (by decide) rfl (fun ls hl => ?_)
        refine lv_aload_n C.1 C.2.1 dX4_fitAct_63 rfl (lv_at hl 2 rfl) ?_
        refine xv_get C hw hi hk 0 (by decide) tb_111 (Or.inl rfl) rfl dX4_fitAct_64 ?_
        refine xb_get C hw 4 (by decide) tb_56 rfl dX4_fitAct_67 ?_
        have hy : y = sumW (pk P) F dk 0 := hy
        have hB : B1 = sumB (pk P) dk (iB B 0) := hB
        subst hy
        subst hB
        refine lv_if_eq (tgt := 88) C.1 C.2.1 dX4_fitAct_70 (by decide) (fun h1 => ?_) (fun h1 => ?_)
        · refine lv_iconst (v := 0) C.1 C.2.1 dX4_fitAct_88 (by decide) ?_
          exact ct_z C hr hlocks (Or.inl rfl) (by rw [show fP (pk P) F G dk i = false from decide_eq_false (fun q => q.1 h1)]; rfl) (fun t ht hW => x_post hw ht hW) hS (Nat.le_of_ble_eq_true rfl) (Nat.le_of_ble_eq_true rfl) dX4_fitAct_89
        · refine lv_iload_n C.1 C.2.1 dX4_fitAct_73 rfl (lv_at hl 0 rfl) ?_
          refine lv_aload_n C.1 C.2.1 dX4_fitAct_74 rfl (lv_at hl 2 rfl) ?_
          refine xv_get C hw hi hk 0 (by decide) tb_111 (Or.inl rfl) rfl dX4_fitAct_75 ?_
          refine xb_get C hw 3 (by decide) tb_51 rfl dX4_fitAct_78 ?_
          refine lv_icmp_gt (tgt := 88) C.1 C.2.1 dX4_fitAct_81 (by decide) (fun h2 => ?_) (fun h2 => ?_)
          · refine lv_iconst (v := 0) C.1 C.2.1 dX4_fitAct_88 (by decide) ?_
            exact ct_z C hr hlocks (Or.inl rfl) (by rw [show fP (pk P) F G dk i = false from decide_eq_false (fun q => Int32.not_lt.mpr q.2 h2)]; rfl) (fun t ht hW => x_post hw ht hW) hS (Nat.le_of_ble_eq_true rfl) (Nat.le_of_ble_eq_true rfl) dX4_fitAct_89
          · refine lv_iconst (v := 1) C.1 C.2.1 dX4_fitAct_84 (by decide) ?_
            refine lv_goto (tgt := 89) C.1 C.2.1 dX4_fitAct_85 (by decide) ?_
            exact ct_z C hr hlocks (Or.inr rfl) (by rw [show fP (pk P) F G dk i = true from decide_eq_true ⟨h1, Int32.not_lt.mp h2⟩]; rfl) (fun t ht hW => x_post hw ht hW) hS (Nat.le_of_ble_eq_true rfl) (Nat.le_of_ble_eq_true rfl) dX4_fitAct_89
      · exact absurd (by rw [hx]; exact nI_le (Nat.le_refl 24) (by omega)) h1
    | succ k ih =>
      intro j hj x y B1 hx hy hB H locs hw hS ls hl
      refine lv_iload_n C.1 C.2.1 dX4_fitAct_17 rfl (lv_at hl 0 rfl) ?_
      refine lv_aload_n C.1 C.2.1 dX4_fitAct_18 rfl (lv_at hl 2 rfl) ?_
      refine xv_get C hw hi hk 0 (by decide) tb_111 (Or.inl rfl) rfl dX4_fitAct_19 ?_
      refine xb_get C hw 0 (by decide) tb_36 rfl dX4_fitAct_22 ?_
      refine xD_len C hw dX4_fitAct_25 ?_
      refine lv_icmp_ge (tgt := 56) C.1 C.2.1 dX4_fitAct_26 (by decide) (fun h1 => ?_) (fun h1 => ?_)
      · exact absurd (by rw [hx] at h1; exact h1) (nI_ge (a := j) (b := 24) (by omega) (by omega))
      · refine lv_aload_n C.1 C.2.1 dX4_fitAct_29 rfl (lv_at hl 2 rfl) ?_
        refine xv_get C hw hi hk 0 (by decide) tb_111 (Or.inl rfl) rfl dX4_fitAct_30 ?_
        refine xb_get C hw 0 (by decide) tb_36 rfl dX4_fitAct_33 ?_
        refine lv_iload_n C.1 C.2.1 dX4_fitAct_36 rfl (lv_at hl 0 rfl) ?_
        rcases hdj : dk[j]? with _ | v
        · refine xD_ldN C hw (show j < 24 by omega) hx (by simp [dfd, hdj]) dX4_fitAct_37 ?_
          refine lv_astore_nN (lv' := [(3, .null), (2, .int (x)), (1, .int (y)), (0, .ref (pa P i))]) C.1 C.2.1 dX4_fitAct_38 rfl hl (by decide) rfl (fun ls hl => ?_)
          refine lv_aload_nN C.1 C.2.1 dX4_fitAct_39 rfl (lv_at hl 0 rfl) ?_
          refine lv_ifnullN (tgt := 50) C.1 C.2.1 dX4_fitAct_40 (by decide) ?_
          obtain ⟨x1, ex1⟩ : ∃ z : Int32, z = x + 1 := ⟨_, rfl⟩
          refine lv_iinc (v := x1) (lv' := [(2, .int (x1)), (3, .null), (1, .int (y)), (0, .ref (pa P i))]) C.1 C.2.1 dX4_fitAct_50 hl (k := 1) rfl (by rw [ex1]; rfl) (by decide) rfl (fun ls hl => ?_)
          refine lv_goto (tgt := 17) C.1 C.2.1 dX4_fitAct_53 (by decide) ?_
          exact ih (j + 1) (by omega) x1 y B1 (by rw [ex1, hx]; exact nI_1 j) (by rw [(drop_none hdj).2]; rw [(drop_none hdj).1] at hy; exact hy) (by rw [(drop_none hdj).2]; rw [(drop_none hdj).1] at hB; exact hB) H locs hw hS ls (lv_sub hl [0, 2, 3] rfl)
        · obtain ⟨hv, hkv⟩ := hO.v hdj
          refine xD_ldS C hw (show j < 24 by omega) hx (show dfd P dk j = some (pa P v) by simp [dfd, hdj]) dX4_fitAct_37 ?_
          refine lv_astore_n (lv' := [(3, .ref (pa P v)), (2, .int (x)), (1, .int (y)), (0, .ref (pa P i))]) C.1 C.2.1 dX4_fitAct_38 rfl hl (by decide) rfl (fun ls hl => ?_)
          refine lv_aload_n C.1 C.2.1 dX4_fitAct_39 rfl (lv_at hl 0 rfl) ?_
          refine lv_ifnull C.1 C.2.1 dX4_fitAct_40 ?_
          refine lv_iload_n C.1 C.2.1 dX4_fitAct_43 rfl (lv_at hl 2 rfl) ?_
          refine lv_aload_n C.1 C.2.1 dX4_fitAct_44 rfl (lv_at hl 0 rfl) ?_
          refine ct_ret (v_weight C hw hv hkv tb_375 hl.1 dX4_fitAct_45 ⟨Nat.le_of_ble_eq_true rfl, Nat.le_of_ble_eq_true rfl⟩ (Nat.le_of_ble_eq_true rfl) ⟨Nat.le_of_ble_eq_true rfl, Nat.le_of_ble_eq_true rfl⟩) hS (fun _ h => h) (fun t H locs ht hvm hw _ _ hS => ?_)
          have hw := x_back hw ht hvm
          refine lv_iadd C.1 C.2.1 dX4_fitAct_48 ?_
          refine lv_istore_n (lv' := [(1, .int ((y) + (wR (pk P v) F v))), (3, .ref (pa P v)), (2, .int (x)), (0, .ref (pa P i))]) C.1 C.2.1 dX4_fitAct_49 rfl hl (by decide) rfl (fun ls hl => ?_)
          obtain ⟨x1, ex1⟩ : ∃ z : Int32, z = x + 1 := ⟨_, rfl⟩
          refine lv_iinc (v := x1) (lv' := [(2, .int (x1)), (1, .int ((y) + (wR (pk P v) F v))), (3, .ref (pa P v)), (0, .ref (pa P i))]) C.1 C.2.1 dX4_fitAct_50 hl (k := 2) rfl (by rw [ex1]; rfl) (by decide) rfl (fun ls hl => ?_)
          refine lv_goto (tgt := 17) C.1 C.2.1 dX4_fitAct_53 (by decide) ?_
          exact ih (j + 1) (by omega) x1 (y + wR (pk P v) F v) (wBk (pk P v) B1) (by rw [ex1, hx]; exact nI_1 j) (by rw [drop_some hdj] at hy; exact hy) (by rw [drop_some hdj] at hB; exact hB) H locs hw hS ls (lv_sub hl [0, 1, 3] rfl)
  refine x_begun C hw hi hk tb_111 (Or.inl rfl) tb_38 (lv_at hl 0 rfl) dX4_fitAct_0 dX4_fitAct_1 dX4_fitAct_4 ?_
  refine lv_iconst (v := 0) C.1 C.2.1 dX4_fitAct_7 (by decide) ?_
  refine x_inc C hw hS (j := 0) (by decide) (by decide) dX4_fitAct_8 dX4_fitAct_9 dX4_fitAct_10 dX4_fitAct_11 dX4_fitAct_12 (fun H locs hw hS => ?_)
  refine lv_iconst (v := 0) C.1 C.2.1 dX4_fitAct_13 (by decide) ?_
  refine lv_istore_n (lv' := [(1, .int (0)), (0, .ref (pa P i))]) C.1 C.2.1 dX4_fitAct_14 rfl hl (by decide) rfl (fun ls hl => ?_)
  refine lv_iconst (v := 0) C.1 C.2.1 dX4_fitAct_15 (by decide) ?_
  refine lv_istore_n (lv' := [(2, .int (0)), (1, .int (0)), (0, .ref (pa P i))]) C.1 C.2.1 dX4_fitAct_16 rfl hl (by decide) rfl (fun ls hl => ?_)
  exact loop 24 0 rfl 0 0 (iB B 0) nI_0.symm rfl rfl _ _ hw hS ls hl
set_option maxHeartbeats 400000 in
set_option maxRecDepth 100000 in
/-- TANKER: UNDER, and the DECK is empty -/
theorem c_X8_fitAct (l : Launch) (D : va_G) (A : Nat → Prop) (P : SwP) (F : Nat → Nat → Int32) (B G : Nat → Int32) (dk : List Nat) (i : Nat) (hO : Ok P F dk) (hi : i < pn P) (hk : pk P i < 9) : Ct l yX8_fitAct (.code yX8_fitAct cX8_fitAct 1 (some .boolean)) ({ frames := 4, cells := 0, slots := 0, locals := 83 }) A [.ref (pa P i)] (Xp D A P F B G dk) (.inl (some (.int (b2i (fP (pk P) F G dk i && dk.isEmpty))))) (Xp D A P F (fPB (pk P) dk i (iB B 5)) G dk) := by
  refine ct_mk (by decide) (Nat.le_of_ble_eq_true rfl) (fun p e s m below meth c ls C hr hlocks hnm htab hP hl => ?_)
  have hw := hP
  have hS : va_S A s.heap s.heap [] := va_S.rf
  have hl : lv_has ls 1 [(0, .ref (pa P i))] := hl
  refine x_begun C hw hi hk tb_116 (Or.inr tb_117) tb_41 (lv_at hl 0 rfl) dX8_fitAct_0 dX8_fitAct_1 dX8_fitAct_4 ?_
  refine lv_iconst (v := 5) C.1 C.2.1 dX8_fitAct_7 (by decide) ?_
  refine x_inc C hw hS (j := 5) (by decide) (by decide) dX8_fitAct_8 dX8_fitAct_9 dX8_fitAct_10 dX8_fitAct_11 dX8_fitAct_12 (fun H locs hw hS => ?_)
  refine lv_aload_n C.1 C.2.1 dX8_fitAct_13 rfl (lv_at hl 0 rfl) ?_
  refine ct_ret (x_SU C hw hi hk (c_X4_fitAct l D A P _ _ _ _ i hO hi hk) Xp_bl (fun U hU hW => x_post hw hU hW) tb_374 tb_4 tb_348 tb_371 tb_372 ⟨rfl, rfl⟩ tb_244 (by decide) (sup2 C hw tb_227 tb_176) (by show _ = some 0; decide +kernel) hl.1 dX8_fitAct_14 ⟨Nat.le_of_ble_eq_true rfl, Nat.le_of_ble_eq_true rfl⟩ rfl (Nat.le_of_ble_eq_true rfl) ⟨Nat.le_of_ble_eq_true rfl, Nat.le_of_ble_eq_true rfl⟩) hS (fun _ h => h) (fun t H locs ht hvm hw _ _ hS => ?_)
  have hw := x_back hw ht hvm
  refine lv_if_eq (tgt := 34) C.1 C.2.1 dX8_fitAct_17 (by decide) (fun h1 => ?_) (fun h1 => ?_)
  · refine lv_iconst (v := 0) C.1 C.2.1 dX8_fitAct_34 (by decide) ?_
    exact ct_z C hr hlocks (Or.inl rfl) (by rw [b2i_0 h1]; rfl) (fun t ht hW => x_post hw ht hW) hS (Nat.le_of_ble_eq_true rfl) (Nat.le_of_ble_eq_true rfl) dX8_fitAct_35
  · refine lv_aload_n C.1 C.2.1 dX8_fitAct_20 rfl (lv_at hl 0 rfl) ?_
    refine xv_get C hw hi hk 0 (by decide) tb_116 (Or.inr tb_117) rfl dX8_fitAct_21 ?_
    refine xb_get C hw 2 (by decide) tb_48 rfl dX8_fitAct_24 ?_
    refine lv_if_ne (tgt := 34) C.1 C.2.1 dX8_fitAct_27 (by decide) (fun h2 => ?_) (fun h2 => ?_)
    · refine lv_iconst (v := 0) C.1 C.2.1 dX8_fitAct_34 (by decide) ?_
      have hne : dk.isEmpty = false := by cases dk with | nil => exact absurd rfl h2 | cons a t => rfl
      exact ct_z C hr hlocks (Or.inl rfl) (by rw [hne, Bool.and_false]; rfl) (fun t ht hW => x_post hw ht hW) hS (Nat.le_of_ble_eq_true rfl) (Nat.le_of_ble_eq_true rfl) dX8_fitAct_35
    · refine lv_iconst (v := 1) C.1 C.2.1 dX8_fitAct_30 (by decide) ?_
      refine lv_goto (tgt := 35) C.1 C.2.1 dX8_fitAct_31 (by decide) ?_
      have he : dk = [] := nI_len0 h2 hO.len
      exact ct_z C hr hlocks (Or.inr rfl) (by rw [b2i_1 h1, show dk.isEmpty = true by rw [he]; rfl]; rfl) (fun t ht hW => x_post hw ht hW) hS (Nat.le_of_ble_eq_true rfl) (Nat.le_of_ble_eq_true rfl) dX8_fitAct_35
set_option maxHeartbeats 400000 in
set_option maxRecDepth 100000 in
/-- LATE BUS: UNDER, and none on the DECK is of KIND 6 or 7 -/
theorem c_X6_fitAct (l : Launch) (D : va_G) (A : Nat → Prop) (P : SwP) (F : Nat → Nat → Int32) (B G : Nat → Int32) (dk : List Nat) (i : Nat) (hO : Ok P F dk) (hi : i < pn P) (hk : pk P i < 9) : Ct l yX6_fitAct (.code yX6_fitAct cX6_fitAct 1 (some .boolean)) ({ frames := 4, cells := 0, slots := 0, locals := 83 }) A [.ref (pa P i)] (Xp D A P F B G dk) (.inl (some (.int (b2i (fP (pk P) F G dk i && !(dk.any (fun v => isBus (pk P v)))))))) (Xp D A P F (fPB (pk P) dk i (iB B 7)) G dk) := by
  refine ct_mk (by decide) (Nat.le_of_ble_eq_true rfl) (fun p e s m below meth c ls C hr hlocks hnm htab hP hl => ?_)
  have hw := hP
  have hS : va_S A s.heap s.heap [] := va_S.rf
  have hl : lv_has ls 1 [(0, .ref (pa P i))] := hl
  refine x_begun C hw hi hk tb_114 (Or.inr tb_115) tb_40 (lv_at hl 0 rfl) dX6_fitAct_0 dX6_fitAct_1 dX6_fitAct_4 ?_
  refine lv_bipush (v := 7) C.1 C.2.1 dX6_fitAct_7 (by decide) ?_
  refine x_inc C hw hS (j := 7) (by decide) (by decide) dX6_fitAct_9 dX6_fitAct_10 dX6_fitAct_11 dX6_fitAct_12 dX6_fitAct_13 (fun H locs hw hS => ?_)
  refine lv_aload_n C.1 C.2.1 dX6_fitAct_14 rfl (lv_at hl 0 rfl) ?_
  refine ct_ret (x_SU C hw hi hk (c_X4_fitAct l D A P _ _ _ _ i hO hi hk) Xp_bl (fun U hU hW => x_post hw hU hW) tb_374 tb_4 tb_348 tb_360 tb_361 ⟨rfl, rfl⟩ tb_278 (by decide) (sup3 C hw tb_261 tb_227 tb_176) (by show _ = some 0; decide +kernel) hl.1 dX6_fitAct_15 ⟨Nat.le_of_ble_eq_true rfl, Nat.le_of_ble_eq_true rfl⟩ rfl (Nat.le_of_ble_eq_true rfl) ⟨Nat.le_of_ble_eq_true rfl, Nat.le_of_ble_eq_true rfl⟩) hS (fun _ h => h) (fun t H locs ht hvm hw _ _ hS => ?_)
  have hw := x_back hw ht hvm
  refine lv_if_eq (tgt := 35) C.1 C.2.1 dX6_fitAct_18 (by decide) (fun h1 => ?_) (fun h1 => ?_)
  · refine lv_iconst (v := 0) C.1 C.2.1 dX6_fitAct_35 (by decide) ?_
    exact ct_z C hr hlocks (Or.inl rfl) (by rw [b2i_0 h1]; rfl) (fun t ht hW => x_post hw ht hW) hS (Nat.le_of_ble_eq_true rfl) (Nat.le_of_ble_eq_true rfl) dX6_fitAct_36
  · refine lv_aload_n C.1 C.2.1 dX6_fitAct_21 rfl (lv_at hl 0 rfl) ?_
    refine xv_get C hw hi hk 0 (by decide) tb_114 (Or.inr tb_115) rfl dX6_fitAct_22 ?_
    refine ct_ret (ct_V0 C (c_X0_bearsBus l D A P _ _ _ _ hO) Xp_bl (Or.inl rfl) tb_366 tb_2 ⟨Nat.le_of_ble_eq_true rfl, Nat.le_of_ble_eq_true rfl⟩ tb_363 ⟨by decide, by decide⟩ tb_365 tb_364 (x_recvB hw) (fun U hU hW => x_post hw hU hW) (sig_code (C.2.2.2.2 _ tb_366)) (by show _ = some 0; decide +kernel) hl.1 rfl (Nat.le_of_ble_eq_true rfl) dX6_fitAct_25 ⟨Nat.le_of_ble_eq_true rfl, Nat.le_of_ble_eq_true rfl⟩) hS (fun _ h => h) (fun t H locs ht hvm hw _ _ hS => ?_)
    have hw := x_back hw ht hvm
    refine lv_if_ne (tgt := 35) C.1 C.2.1 dX6_fitAct_28 (by decide) (fun h2 => ?_) (fun h2 => ?_)
    · refine lv_iconst (v := 0) C.1 C.2.1 dX6_fitAct_35 (by decide) ?_
      exact ct_z C hr hlocks (Or.inl rfl) (by rw [b2i_1 h2, Bool.not_true, Bool.and_false]; rfl) (fun t ht hW => x_post hw ht hW) hS (Nat.le_of_ble_eq_true rfl) (Nat.le_of_ble_eq_true rfl) dX6_fitAct_36
    · refine lv_iconst (v := 1) C.1 C.2.1 dX6_fitAct_31 (by decide) ?_
      refine lv_goto (tgt := 36) C.1 C.2.1 dX6_fitAct_32 (by decide) ?_
      exact ct_z C hr hlocks (Or.inr rfl) (by rw [b2i_1 h1, b2i_0 h2]; rfl) (fun t ht hW => x_post hw ht hW) hS (Nat.le_of_ble_eq_true rfl) (Nat.le_of_ble_eq_true rfl) dX6_fitAct_36
set_option maxHeartbeats 400000 in
set_option maxRecDepth 100000 in
/-- CYCLE: the BRIDGE is SHUT -/
theorem c_X5_fitAct (l : Launch) (D : va_G) (A : Nat → Prop) (P : SwP) (F : Nat → Nat → Int32) (B G : Nat → Int32) (dk : List Nat) (i : Nat) (hO : Ok P F dk) (hi : i < pn P) (hk : pk P i < 9) (hz : G 4 = 0 ∨ G 4 = 1) : Ct l yX5_fitAct (.code yX5_fitAct cX5_fitAct 1 (some .boolean)) ({ frames := 0, cells := 0, slots := 0, locals := 0 }) A [.ref (pa P i)] (Xp D A P F B G dk) (.inl (some (.int (b2i (decide (G 4 ≠ 0)))))) (Xp D A P F (iB B 8) G dk) := by
  refine ct_mk (by decide) (Nat.le_of_ble_eq_true rfl) (fun p e s m below meth c ls C hr hlocks hnm htab hP hl => ?_)
  have hw := hP
  have hS : va_S A s.heap s.heap [] := va_S.rf
  have hl : lv_has ls 1 [(0, .ref (pa P i))] := hl
  refine x_begun C hw hi hk tb_122 (Or.inr tb_123) tb_44 (lv_at hl 0 rfl) dX5_fitAct_0 dX5_fitAct_1 dX5_fitAct_4 ?_
  refine lv_bipush (v := 8) C.1 C.2.1 dX5_fitAct_7 (by decide) ?_
  refine x_inc C hw hS (j := 8) (by decide) (by decide) dX5_fitAct_9 dX5_fitAct_10 dX5_fitAct_11 dX5_fitAct_12 dX5_fitAct_13 (fun H locs hw hS => ?_)
  refine lv_aload_n C.1 C.2.1 dX5_fitAct_14 rfl (lv_at hl 0 rfl) ?_
  refine xv_get C hw hi hk 0 (by decide) tb_122 (Or.inr tb_123) rfl dX5_fitAct_15 ?_
  refine xb_get C hw 4 (by decide) tb_55 rfl dX5_fitAct_18 ?_
  exact ct_z C hr hlocks hz (by rcases hz with q | q <;> rw [q] <;> rfl) (fun t ht hW => x_post hw ht hW) hS (Nat.le_of_ble_eq_true rfl) (Nat.le_of_ble_eq_true rfl) dX5_fitAct_21
