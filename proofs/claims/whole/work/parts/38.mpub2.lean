set_option maxHeartbeats 400000 in
set_option maxRecDepth 100000 in
/-- thrown -/
theorem c_X11_thrown (l : Launch) (D : va_G) (A : Nat → Prop) (P : SwP) (q : Nat → Nat) (cI : Nat) (F : Nat → Nat → Int32) (B G : Nat → Int32) (dk : List Nat) (thr : Int32)  : Ct l yX11_thrown (.code yX11_thrown cX11_thrown 1 (some .int)) ({ frames := 6, cells := 0, slots := 0, locals := 160 }) A [.ref (q 0)] (Mz D A q cI (pn P) F B G dk thr) (.inl (some (.int thr))) (Mz D A q cI (pn P) F B G dk thr) := by
  refine ct_mk (by decide) (Nat.le_of_ble_eq_true rfl) (fun p e s m below meth c ls C hr hlocks hnm htab hP hl => ?_)
  obtain ⟨r, dv, hro, hw⟩ := hP
  have hS : va_S A s.heap s.heap [] := va_S.rf
  have hl : lv_has ls 1 [(0, .ref (q 0))] := hl
  refine lv_aload_n C.1 C.2.1 dX11_thrown_0 rfl (lv_at hl 0 rfl) ?_
  refine mg_get C hw 0 (by decide) tb_708 rfl dX11_thrown_1 ?_
  exact ct_i C hr hlocks rfl (fun t ht hW => mz_mk hro hw ht hW) hS (Nat.le_of_ble_eq_true rfl) (Nat.le_of_ble_eq_true rfl) dX11_thrown_4
set_option maxHeartbeats 400000 in
set_option maxRecDepth 100000 in
/-- what is told of a vehicle -/
theorem c_X11_tell (l : Launch) (D : va_G) (A : Nat → Prop) (P : SwP) (q : Nat → Nat) (cI : Nat) (F : Nat → Nat → Int32) (B G : Nat → Int32) (dk : List Nat) (thr : Int32) (x : Int32) (w : Int32) (hI : Inv P (F, B, G, dk)) : Ct l yX11_tell (.code yX11_tell cX11_tell 3 (some .int)) ({ frames := 6, cells := 0, slots := 0, locals := 160 }) A [.ref (q 0), .int x, .int w] (Mz D A q cI (pn P) F B G dk thr) (.inl (some (.int (oTell (pn P) x w (F, B, G, dk)).2.1))) (Mz D A q cI (pn P) (oTell (pn P) x w (F, B, G, dk)).2.2.1 (oTell (pn P) x w (F, B, G, dk)).2.2.2.1 (oTell (pn P) x w (F, B, G, dk)).2.2.2.2.1 (oTell (pn P) x w (F, B, G, dk)).2.2.2.2.2 0) := by
  refine ct_mk (by decide) (Nat.le_of_ble_eq_true rfl) (fun p e s m below meth c ls C hr hlocks hnm htab hP hl => ?_)
  obtain ⟨r, dv, hro, hw⟩ := hP
  have hS : va_S A s.heap s.heap [] := va_S.rf
  have hl : lv_has ls 3 [(0, .ref (q 0)), (1, .int x), (2, .int w)] := hl
  have hO : Ok P F dk := hI.1
  cases hv : vAt (pn P) x with
  | none =>
    refine lv_aload_n C.1 C.2.1 dX11_tell_0 rfl (lv_at hl 0 rfl) ?_
    refine lv_iconst (v := 0) C.1 C.2.1 dX11_tell_1 (by decide) ?_
    refine mp_thr C hw hS tb_708 dX11_tell_2 (fun H locs hw hS => ?_)
    refine lv_aload_n C.1 C.2.1 dX11_tell_5 rfl (lv_at hl 0 rfl) ?_
    refine lv_iload_n C.1 C.2.1 dX11_tell_6 rfl (lv_at hl 1 rfl) ?_
    have hM := c_X11_isVehicle l D A q cI (pn P) F B G (nI dk.length) r 0 dv hI.1.1 x
    rw [hv] at hM
    rw [show b2i (none : Option Nat).isSome = 0 from rfl] at hM
    refine ct_ret (ct_V0 C hM Mp_bl (Or.inl rfl) tb_781 tb_3 ⟨Nat.le_of_ble_eq_true rfl, Nat.le_of_ble_eq_true rfl⟩ tb_778 ⟨by decide, by decide⟩ tbp_3 tb_780 (m_recv hw) (fun U hU hW => m_post hw hU hW) (sig_code (C.2.2.2.2 _ tb_781)) (by show _ = some 1; decide +kernel) hl.1 rfl (Nat.le_of_ble_eq_true rfl) dX11_tell_7 ⟨Nat.le_of_ble_eq_true rfl, Nat.le_of_ble_eq_true rfl⟩) hS (fun _ h => h) (fun t H locs ht hvm hw _ _ hS => ?_)
    have hw := m_back hw ht hvm
    refine lv_if_ne (tgt := 16) C.1 C.2.1 dX11_tell_10 (by decide) (fun h9 => absurd (by decide) h9) (fun _ => ?_)
    refine lv_bipush (v := -101) C.1 C.2.1 dX11_tell_13 (by decide) ?_
    rw [show (oTell (pn P) x w (F, B, G, dk)) = _ from (onV_n hv)]
    exact ct_i C hr hlocks rfl (fun t ht hW => mz_mk hro hw ht hW) hS (Nat.le_of_ble_eq_true rfl) (Nat.le_of_ble_eq_true rfl) dX11_tell_15
  | some j =>
    have hj : j < pn P := vAt_lt hv
    have hxj := vAt_x hv
    subst hxj
    have hj24 : j < 24 := Nat.lt_of_lt_of_le hj hO.1
    have hkj : pk P j < 9 := hO.2.1 j hj
    have hF := hO.2.2.1 j hj
    refine lv_aload_n C.1 C.2.1 dX11_tell_0 rfl (lv_at hl 0 rfl) ?_
    refine lv_iconst (v := 0) C.1 C.2.1 dX11_tell_1 (by decide) ?_
    refine mp_thr C hw hS tb_708 dX11_tell_2 (fun H locs hw hS => ?_)
    refine lv_aload_n C.1 C.2.1 dX11_tell_5 rfl (lv_at hl 0 rfl) ?_
    refine lv_iload_n C.1 C.2.1 dX11_tell_6 rfl (lv_at hl 1 rfl) ?_
    have hM := c_X11_isVehicle l D A q cI (pn P) F B G (nI dk.length) r 0 dv hI.1.1 (nI j)
    rw [hv] at hM
    rw [show b2i (some j : Option Nat).isSome = 1 from rfl] at hM
    refine ct_ret (ct_V0 C hM Mp_bl (Or.inl rfl) tb_781 tb_3 ⟨Nat.le_of_ble_eq_true rfl, Nat.le_of_ble_eq_true rfl⟩ tb_778 ⟨by decide, by decide⟩ tbp_3 tb_780 (m_recv hw) (fun U hU hW => m_post hw hU hW) (sig_code (C.2.2.2.2 _ tb_781)) (by show _ = some 1; decide +kernel) hl.1 rfl (Nat.le_of_ble_eq_true rfl) dX11_tell_7 ⟨Nat.le_of_ble_eq_true rfl, Nat.le_of_ble_eq_true rfl⟩) hS (fun _ h => h) (fun t H locs ht hvm hw _ _ hS => ?_)
    have hw := m_back hw ht hvm
    refine lv_if_ne (tgt := 16) C.1 C.2.1 dX11_tell_10 (by decide) (fun _ => ?_) (fun h9 => absurd h9 (by decide))
    refine lv_iload_n C.1 C.2.1 dX11_tell_16 rfl (lv_at hl 2 rfl) ?_
    by_cases hs1 : w.toInt < 0
    · refine lv_tableOut (tgt := 120) C.1 C.2.1 dX11_tell_17 (Or.inl hs1) (by decide) ?_
      refine lv_bipush (v := -102) C.1 C.2.1 dX11_tell_120 (by decide) ?_
      have hno : tellF w = none := by
        have hq := fun {k : Nat} (hk : k ≤ 7) => sw_out (N := 7) (Or.inl hs1) (by decide) (w := w) (j := k) hk
        unfold tellF
        rw [if_neg (show ¬ w = 0 from hq (k := 0) (by decide)), if_neg (show ¬ w = 1 from hq (k := 1) (by decide)), if_neg (show ¬ w = 2 from hq (k := 2) (by decide)), if_neg (show ¬ w = 3 from hq (k := 3) (by decide)), if_neg (show ¬ w = 4 from hq (k := 4) (by decide)), if_neg (show ¬ w = 5 from hq (k := 5) (by decide)), if_neg (show ¬ w = 6 from hq (k := 6) (by decide)), if_neg (show ¬ w = 7 from hq (k := 7) (by decide))]
      rw [show oTell (pn P) (nI j) w (F, B, G, dk) = (0, -102, (F, B, G, dk)) from (onV_s hv).trans (by rw [hno])]
      exact ct_i C hr hlocks rfl (fun t ht hW => mz_mk hro hw ht hW) hS (Nat.le_of_ble_eq_true rfl) (Nat.le_of_ble_eq_true rfl) dX11_tell_122
    · by_cases hs2 : (7 : Int) < w.toInt
      · refine lv_tableOut (tgt := 120) C.1 C.2.1 dX11_tell_17 (Or.inr hs2) (by decide) ?_
        refine lv_bipush (v := -102) C.1 C.2.1 dX11_tell_120 (by decide) ?_
        have hno : tellF w = none := by
          have hq := fun {k : Nat} (hk : k ≤ 7) => sw_out (N := 7) (Or.inr hs2) (by decide) (w := w) (j := k) hk
          unfold tellF
          rw [if_neg (show ¬ w = 0 from hq (k := 0) (by decide)), if_neg (show ¬ w = 1 from hq (k := 1) (by decide)), if_neg (show ¬ w = 2 from hq (k := 2) (by decide)), if_neg (show ¬ w = 3 from hq (k := 3) (by decide)), if_neg (show ¬ w = 4 from hq (k := 4) (by decide)), if_neg (show ¬ w = 5 from hq (k := 5) (by decide)), if_neg (show ¬ w = 6 from hq (k := 6) (by decide)), if_neg (show ¬ w = 7 from hq (k := 7) (by decide))]
        rw [show oTell (pn P) (nI j) w (F, B, G, dk) = (0, -102, (F, B, G, dk)) from (onV_s hv).trans (by rw [hno])]
        exact ct_i C hr hlocks rfl (fun t ht hW => mz_mk hro hw ht hW) hS (Nat.le_of_ble_eq_true rfl) (Nat.le_of_ble_eq_true rfl) dX11_tell_122
      · obtain ⟨k, hk7, rfl⟩ := sw_cases (N := 7) hs1 hs2 (by decide)
        rcases (show k = 0 ∨ k = 1 ∨ k = 2 ∨ k = 3 ∨ k = 4 ∨ k = 5 ∨ k = 6 ∨ k = 7 by omega) with rfl | rfl | rfl | rfl | rfl | rfl | rfl | rfl
        · refine lv_tableIn (tgt := 64) C.1 C.2.1 dX11_tell_17 hs1 hs2 rfl (by decide) ?_
          refine lv_aload_n C.1 C.2.1 dX11_tell_64 rfl (lv_at hl 0 rfl) ?_
          refine mg_get C hw 2 (by decide) tb_710 rfl dX11_tell_65 ?_
          refine lv_iload_n C.1 C.2.1 dX11_tell_68 rfl (lv_at hl 1 rfl) ?_
          refine ma_kind C hw hj24 rfl dX11_tell_69 ?_
          rw [show oTell (pn P) (nI j) (nI 0) (F, B, G, dk) = (0, F j 2, (F, B, G, dk)) from onV_s hv]
          exact ct_i C hr hlocks rfl (fun t ht hW => mz_mk hro hw ht hW) hS (Nat.le_of_ble_eq_true rfl) (Nat.le_of_ble_eq_true rfl) dX11_tell_70
        · refine lv_tableIn (tgt := 71) C.1 C.2.1 dX11_tell_17 hs1 hs2 rfl (by decide) ?_
          refine lv_aload_n C.1 C.2.1 dX11_tell_71 rfl (lv_at hl 0 rfl) ?_
          refine mg_get C hw 3 (by decide) tb_711 rfl dX11_tell_72 ?_
          refine lv_iload_n C.1 C.2.1 dX11_tell_75 rfl (lv_at hl 1 rfl) ?_
          refine ma_mass C hw hj24 rfl dX11_tell_76 ?_
          rw [show oTell (pn P) (nI j) (nI 1) (F, B, G, dk) = (0, F j 3, (F, B, G, dk)) from onV_s hv]
          exact ct_i C hr hlocks rfl (fun t ht hW => mz_mk hro hw ht hW) hS (Nat.le_of_ble_eq_true rfl) (Nat.le_of_ble_eq_true rfl) dX11_tell_77
        · refine lv_tableIn (tgt := 78) C.1 C.2.1 dX11_tell_17 hs1 hs2 rfl (by decide) ?_
          refine lv_aload_n C.1 C.2.1 dX11_tell_78 rfl (lv_at hl 0 rfl) ?_
          refine mg_get C hw 4 (by decide) tb_712 rfl dX11_tell_79 ?_
          refine lv_iload_n C.1 C.2.1 dX11_tell_82 rfl (lv_at hl 1 rfl) ?_
          refine ma_load C hw hj24 rfl dX11_tell_83 ?_
          rw [show oTell (pn P) (nI j) (nI 2) (F, B, G, dk) = (0, F j 5, (F, B, G, dk)) from onV_s hv]
          exact ct_i C hr hlocks rfl (fun t ht hW => mz_mk hro hw ht hW) hS (Nat.le_of_ble_eq_true rfl) (Nat.le_of_ble_eq_true rfl) dX11_tell_84
        · refine lv_tableIn (tgt := 85) C.1 C.2.1 dX11_tell_17 hs1 hs2 rfl (by decide) ?_
          refine lv_aload_n C.1 C.2.1 dX11_tell_85 rfl (lv_at hl 0 rfl) ?_
          refine mg_get C hw 5 (by decide) tb_713 rfl dX11_tell_86 ?_
          refine lv_iload_n C.1 C.2.1 dX11_tell_89 rfl (lv_at hl 1 rfl) ?_
          refine ma_share C hw hj24 rfl dX11_tell_90 ?_
          rw [show oTell (pn P) (nI j) (nI 3) (F, B, G, dk) = (0, F j 4, (F, B, G, dk)) from onV_s hv]
          exact ct_i C hr hlocks rfl (fun t ht hW => mz_mk hro hw ht hW) hS (Nat.le_of_ble_eq_true rfl) (Nat.le_of_ble_eq_true rfl) dX11_tell_91
        · refine lv_tableIn (tgt := 92) C.1 C.2.1 dX11_tell_17 hs1 hs2 rfl (by decide) ?_
          refine lv_aload_n C.1 C.2.1 dX11_tell_92 rfl (lv_at hl 0 rfl) ?_
          refine mg_get C hw 6 (by decide) tb_714 rfl dX11_tell_93 ?_
          refine lv_iload_n C.1 C.2.1 dX11_tell_96 rfl (lv_at hl 1 rfl) ?_
          refine ma_place C hw hj24 rfl dX11_tell_97 ?_
          rw [show oTell (pn P) (nI j) (nI 4) (F, B, G, dk) = (0, F j 6, (F, B, G, dk)) from onV_s hv]
          exact ct_i C hr hlocks rfl (fun t ht hW => mz_mk hro hw ht hW) hS (Nat.le_of_ble_eq_true rfl) (Nat.le_of_ble_eq_true rfl) dX11_tell_98
        · refine lv_tableIn (tgt := 99) C.1 C.2.1 dX11_tell_17 hs1 hs2 rfl (by decide) ?_
          refine lv_aload_n C.1 C.2.1 dX11_tell_99 rfl (lv_at hl 0 rfl) ?_
          refine mg_get C hw 7 (by decide) tb_715 rfl dX11_tell_100 ?_
          refine lv_iload_n C.1 C.2.1 dX11_tell_103 rfl (lv_at hl 1 rfl) ?_
          refine ma_paid C hw hj24 rfl dX11_tell_104 ?_
          rw [show oTell (pn P) (nI j) (nI 5) (F, B, G, dk) = (0, F j 7, (F, B, G, dk)) from onV_s hv]
          exact ct_i C hr hlocks rfl (fun t ht hW => mz_mk hro hw ht hW) hS (Nat.le_of_ble_eq_true rfl) (Nat.le_of_ble_eq_true rfl) dX11_tell_105
        · refine lv_tableIn (tgt := 106) C.1 C.2.1 dX11_tell_17 hs1 hs2 rfl (by decide) ?_
          refine lv_aload_n C.1 C.2.1 dX11_tell_106 rfl (lv_at hl 0 rfl) ?_
          refine mg_get C hw 8 (by decide) tb_716 rfl dX11_tell_107 ?_
          refine lv_iload_n C.1 C.2.1 dX11_tell_110 rfl (lv_at hl 1 rfl) ?_
          refine ma_times C hw hj24 rfl dX11_tell_111 ?_
          rw [show oTell (pn P) (nI j) (nI 6) (F, B, G, dk) = (0, F j 8, (F, B, G, dk)) from onV_s hv]
          exact ct_i C hr hlocks rfl (fun t ht hW => mz_mk hro hw ht hW) hS (Nat.le_of_ble_eq_true rfl) (Nat.le_of_ble_eq_true rfl) dX11_tell_112
        · refine lv_tableIn (tgt := 113) C.1 C.2.1 dX11_tell_17 hs1 hs2 rfl (by decide) ?_
          refine lv_aload_n C.1 C.2.1 dX11_tell_113 rfl (lv_at hl 0 rfl) ?_
          refine mg_get C hw 9 (by decide) tb_717 rfl dX11_tell_114 ?_
          refine lv_iload_n C.1 C.2.1 dX11_tell_117 rfl (lv_at hl 1 rfl) ?_
          refine ma_meter C hw hj24 rfl dX11_tell_118 ?_
          rw [show oTell (pn P) (nI j) (nI 7) (F, B, G, dk) = (0, F j 9, (F, B, G, dk)) from onV_s hv]
          exact ct_i C hr hlocks rfl (fun t ht hW => mz_mk hro hw ht hW) hS (Nat.le_of_ble_eq_true rfl) (Nat.le_of_ble_eq_true rfl) dX11_tell_119
set_option maxHeartbeats 400000 in
set_option maxRecDepth 100000 in
/-- the vehicle at a place of the deck -/
theorem c_X11_deck (l : Launch) (D : va_G) (A : Nat → Prop) (P : SwP) (q : Nat → Nat) (cI : Nat) (F : Nat → Nat → Int32) (B G : Nat → Int32) (dk : List Nat) (thr : Int32) (x : Int32) (hI : Inv P (F, B, G, dk)) : Ct l yX11_deck (.code yX11_deck cX11_deck 2 (some .int)) ({ frames := 6, cells := 0, slots := 0, locals := 160 }) A [.ref (q 0), .int x] (Mz D A q cI (pn P) F B G dk thr) (.inl (some (.int (oDeck x (F, B, G, dk)).2.1))) (Mz D A q cI (pn P) (oDeck x (F, B, G, dk)).2.2.1 (oDeck x (F, B, G, dk)).2.2.2.1 (oDeck x (F, B, G, dk)).2.2.2.2.1 (oDeck x (F, B, G, dk)).2.2.2.2.2 0) := by
  refine ct_mk (by decide) (Nat.le_of_ble_eq_true rfl) (fun p e s m below meth c ls C hr hlocks hnm htab hP hl => ?_)
  obtain ⟨r, dv, hro, hw⟩ := hP
  have hS : va_S A s.heap s.heap [] := va_S.rf
  have hl : lv_has ls 2 [(0, .ref (q 0)), (1, .int x)] := hl
  have hO : Ok P F dk := hI.1
  have hL : dk.length ≤ 24 := hO.len
  refine lv_aload_n C.1 C.2.1 dX11_deck_0 rfl (lv_at hl 0 rfl) ?_
  refine lv_iconst (v := 0) C.1 C.2.1 dX11_deck_1 (by decide) ?_
  refine mp_thr C hw hS tb_708 dX11_deck_2 (fun H locs hw hS => ?_)
  refine lv_iload_n C.1 C.2.1 dX11_deck_5 rfl (lv_at hl 1 rfl) ?_
  refine lv_iconst (v := 0) C.1 C.2.1 dX11_deck_6 (by decide) ?_
  refine lv_aload_n C.1 C.2.1 dX11_deck_7 rfl (lv_at hl 0 rfl) ?_
  refine mg_get C hw 11 (by decide) tb_719 rfl dX11_deck_8 ?_
  refine lv_iconst (v := 1) C.1 C.2.1 dX11_deck_11 (by decide) ?_
  refine lv_isub C.1 C.2.1 dX11_deck_12 ?_
  refine ct_ret (ct_S C (c_X11_within l (x) (0) ((nI dk.length) - (1))) Tr_bl (Or.inl rfl) tb_773 tb_3 ⟨Nat.le_of_ble_eq_true rfl, Nat.le_of_ble_eq_true rfl⟩ tb_771 ⟨by decide, by decide⟩ tb_772 (fun _ _ _ => trivial) (by show _ = some 3; decide +kernel) hl.1 rfl (Nat.le_of_ble_eq_true rfl) dX11_deck_13 ⟨Nat.le_of_ble_eq_true rfl, Nat.le_of_ble_eq_true rfl⟩) hS (fun _ h => False.elim h) (fun t H locs ht hvm _ _ hk hS => ?_)
  have hw := m_kept hw hk
  rw [isV_eq hL]
  cases hv : vAt dk.length x with
  | none =>
    refine lv_if_eq (tgt := 28) C.1 C.2.1 dX11_deck_16 (by decide) (fun _ => ?_) (fun h9 => absurd rfl h9)
    refine lv_bipush (v := -101) C.1 C.2.1 dX11_deck_28 (by decide) ?_
    have hd : dkAt dk x = none := by
      unfold vAt at hv; unfold dkAt
      by_cases h0 : x < 0
      · rw [if_pos h0]
      · rw [if_neg h0] at hv ⊢
        by_cases h1 : x.toNatClampNeg < dk.length
        · rw [if_pos h1] at hv; cases hv
        · exact List.getElem?_eq_none (by omega)
    rw [show (oDeck x (F, B, G, dk)) = (0, -101, (F, B, G, dk)) by unfold oDeck; rw [hd]]
    exact ct_i C hr hlocks rfl (fun t ht hW => mz_mk hro hw ht hW) hS (Nat.le_of_ble_eq_true rfl) (Nat.le_of_ble_eq_true rfl) dX11_deck_30
  | some j =>
    have hj := vAt_lt hv
    have hxj := vAt_x hv
    subst hxj
    obtain ⟨v, hdj⟩ : ∃ v, dk[j]? = some v := ⟨_, List.getElem?_eq_getElem hj⟩
    refine lv_if_eq (tgt := 28) C.1 C.2.1 dX11_deck_16 (by decide) (fun h9 => absurd (show (1 : Int32) = 0 from h9) (by decide)) (fun _ => ?_)
    refine lv_aload_n C.1 C.2.1 dX11_deck_19 rfl (lv_at hl 0 rfl) ?_
    refine mg_get C hw 10 (by decide) tb_718 rfl dX11_deck_20 ?_
    refine lv_iload_n C.1 C.2.1 dX11_deck_23 rfl (lv_at hl 1 rfl) ?_
    refine ma_row C hw (j := j) (show j < 24 by omega) rfl dX11_deck_24 ?_
    rw [hro j v hdj]
    refine lv_goto (tgt := 30) C.1 C.2.1 dX11_deck_25 (by decide) ?_
    rw [show oDeck (nI j) (F, B, G, dk) = (0, nI v, (F, B, G, dk)) by unfold oDeck; rw [show dkAt dk (nI j) = some v from (dkAt_nI (by omega)).trans hdj]]
    exact ct_i C hr hlocks rfl (fun t ht hW => mz_mk hro hw ht hW) hS (Nat.le_of_ble_eq_true rfl) (Nat.le_of_ble_eq_true rfl) dX11_deck_30
set_option maxHeartbeats 400000 in
set_option maxRecDepth 100000 in
/-- BEGAN -/
theorem c_X11_began (l : Launch) (D : va_G) (A : Nat → Prop) (P : SwP) (q : Nat → Nat) (cI : Nat) (F : Nat → Nat → Int32) (B G : Nat → Int32) (dk : List Nat) (thr : Int32) (x : Int32) (hI : Inv P (F, B, G, dk)) : Ct l yX11_began (.code yX11_began cX11_began 2 (some .int)) ({ frames := 6, cells := 0, slots := 0, locals := 160 }) A [.ref (q 0), .int x] (Mz D A q cI (pn P) F B G dk thr) (.inl (some (.int (oBegan x (F, B, G, dk)).2.1))) (Mz D A q cI (pn P) (oBegan x (F, B, G, dk)).2.2.1 (oBegan x (F, B, G, dk)).2.2.2.1 (oBegan x (F, B, G, dk)).2.2.2.2.1 (oBegan x (F, B, G, dk)).2.2.2.2.2 0) := by
  refine ct_mk (by decide) (Nat.le_of_ble_eq_true rfl) (fun p e s m below meth c ls C hr hlocks hnm htab hP hl => ?_)
  obtain ⟨r, dv, hro, hw⟩ := hP
  have hS : va_S A s.heap s.heap [] := va_S.rf
  have hl : lv_has ls 2 [(0, .ref (q 0)), (1, .int x)] := hl
  have hO : Ok P F dk := hI.1
  have hL : dk.length ≤ 24 := hO.len
  refine lv_aload_n C.1 C.2.1 dX11_began_0 rfl (lv_at hl 0 rfl) ?_
  refine lv_iconst (v := 0) C.1 C.2.1 dX11_began_1 (by decide) ?_
  refine mp_thr C hw hS tb_708 dX11_began_2 (fun H locs hw hS => ?_)
  refine lv_iload_n C.1 C.2.1 dX11_began_5 rfl (lv_at hl 1 rfl) ?_
  refine lv_iconst (v := 0) C.1 C.2.1 dX11_began_6 (by decide) ?_
  refine lv_bipush (v := 8) C.1 C.2.1 dX11_began_7 (by decide) ?_
  refine ct_ret (ct_S C (c_X11_within l (x) (0) (8)) Tr_bl (Or.inl rfl) tb_773 tb_3 ⟨Nat.le_of_ble_eq_true rfl, Nat.le_of_ble_eq_true rfl⟩ tb_771 ⟨by decide, by decide⟩ tb_772 (fun _ _ _ => trivial) (by show _ = some 3; decide +kernel) hl.1 rfl (Nat.le_of_ble_eq_true rfl) dX11_began_9 ⟨Nat.le_of_ble_eq_true rfl, Nat.le_of_ble_eq_true rfl⟩) hS (fun _ h => False.elim h) (fun t H locs ht hvm _ _ hk hS => ?_)
  have hw := m_kept hw hk
  refine lv_if_eq (tgt := 24) C.1 C.2.1 dX11_began_12 (by decide) (fun h1 => ?_) (fun h1 => ?_)
  · refine lv_bipush (v := -102) C.1 C.2.1 dX11_began_24 (by decide) ?_
    have ho : outs x 0 8 = true := by cases hq : outs x 0 8; rw [hq] at h1; exact absurd h1 (by decide); rfl
    rw [show (oBegan x (F, B, G, dk)) = (0, -102, (F, B, G, dk)) from congrArg (fun v : Int32 => ((0, v, (F, B, G, dk)) : R3)) (by
      rcases of_decide_eq_true ho with h0 | h8
      · exact if_pos h0
      · have h9 : ¬ x < 9 := fun z => by
          rw [Int32.lt_iff_toInt_lt] at h8 z
          have e1 : (8 : Int32).toInt = 8 := by decide
          have e2 : (9 : Int32).toInt = 9 := by decide
          omega
        by_cases h0 : x < 0
        · exact if_pos h0
        · exact (if_neg h0).trans (if_neg h9))]
    exact ct_i C hr hlocks rfl (fun t ht hW => mz_mk hro hw ht hW) hS (Nat.le_of_ble_eq_true rfl) (Nat.le_of_ble_eq_true rfl) dX11_began_26
  · refine lv_aload_n C.1 C.2.1 dX11_began_15 rfl (lv_at hl 0 rfl) ?_
    refine mg_get C hw 12 (by decide) tb_720 rfl dX11_began_16 ?_
    refine lv_iload_n C.1 C.2.1 dX11_began_19 rfl (lv_at hl 1 rfl) ?_
    have ho : outs x 0 8 = false := by cases hq : outs x 0 8; rfl; rw [hq] at h1; exact absurd rfl h1
    obtain ⟨j, hj9, rfl⟩ := add_k ho
    refine ma_begun C hw hj9 rfl dX11_began_20 ?_
    refine lv_goto (tgt := 26) C.1 C.2.1 dX11_began_21 (by decide) ?_
    rw [show oBegan (nI j) (F, B, G, dk) = (0, B j, (F, B, G, dk)) from congrArg (fun v : Int32 => ((0, v, (F, B, G, dk)) : R3)) ((if_neg (nI_pos (by omega))).trans ((if_pos (show nI j < 9 from nI_lt (b := 9) hj9 (by omega))).trans (by rw [nI_clamp (by omega)])))]
    exact ct_i C hr hlocks rfl (fun t ht hW => mz_mk hro hw ht hW) hS (Nat.le_of_ble_eq_true rfl) (Nat.le_of_ble_eq_true rfl) dX11_began_26
set_option maxHeartbeats 400000 in
set_option maxRecDepth 100000 in
/-- what is counted -/
theorem c_X11_count (l : Launch) (D : va_G) (A : Nat → Prop) (P : SwP) (q : Nat → Nat) (cI : Nat) (F : Nat → Nat → Int32) (B G : Nat → Int32) (dk : List Nat) (thr : Int32) (w : Int32) (hI : Inv P (F, B, G, dk)) : Ct l yX11_count (.code yX11_count cX11_count 2 (some .int)) ({ frames := 6, cells := 0, slots := 0, locals := 160 }) A [.ref (q 0), .int w] (Mz D A q cI (pn P) F B G dk thr) (.inl (some (.int (oCount (pn P) w (F, B, G, dk)).2.1))) (Mz D A q cI (pn P) (oCount (pn P) w (F, B, G, dk)).2.2.1 (oCount (pn P) w (F, B, G, dk)).2.2.2.1 (oCount (pn P) w (F, B, G, dk)).2.2.2.2.1 (oCount (pn P) w (F, B, G, dk)).2.2.2.2.2 0) := by
  refine ct_mk (by decide) (Nat.le_of_ble_eq_true rfl) (fun p e s m below meth c ls C hr hlocks hnm htab hP hl => ?_)
  obtain ⟨r, dv, hro, hw⟩ := hP
  have hS : va_S A s.heap s.heap [] := va_S.rf
  have hl : lv_has ls 2 [(0, .ref (q 0)), (1, .int w)] := hl
  have hO : Ok P F dk := hI.1
  have hL : dk.length ≤ 24 := hO.len
  refine lv_aload_n C.1 C.2.1 dX11_count_0 rfl (lv_at hl 0 rfl) ?_
  refine lv_iconst (v := 0) C.1 C.2.1 dX11_count_1 (by decide) ?_
  refine mp_thr C hw hS tb_708 dX11_count_2 (fun H locs hw hS => ?_)
  refine lv_iload_n C.1 C.2.1 dX11_count_5 rfl (lv_at hl 1 rfl) ?_
  by_cases hs1 : w.toInt < 0
  · refine lv_tableOut (tgt := 82) C.1 C.2.1 dX11_count_6 (Or.inl hs1) (by decide) ?_
    refine lv_bipush (v := -102) C.1 C.2.1 dX11_count_82 (by decide) ?_
    have hq := fun {k : Nat} (hk : k ≤ 5) => sw_out (N := 5) (Or.inl hs1) (by decide) (w := w) (j := k) hk
    rw [show (oCount (pn P) w (F, B, G, dk)) = (0, -102, (F, B, G, dk)) by unfold oCount; rw [if_neg (show ¬ w = 0 from hq (k := 0) (by decide)), if_neg (show ¬ w = 1 from hq (k := 1) (by decide)), if_neg (show ¬ w = 2 from hq (k := 2) (by decide)), if_neg (show ¬ w = 3 from hq (k := 3) (by decide)), if_neg (show ¬ w = 4 from hq (k := 4) (by decide)), if_neg (show ¬ w = 5 from hq (k := 5) (by decide))]]
    exact ct_i C hr hlocks rfl (fun t ht hW => mz_mk hro hw ht hW) hS (Nat.le_of_ble_eq_true rfl) (Nat.le_of_ble_eq_true rfl) dX11_count_84
  · by_cases hs2 : (5 : Int) < w.toInt
    · refine lv_tableOut (tgt := 82) C.1 C.2.1 dX11_count_6 (Or.inr hs2) (by decide) ?_
      refine lv_bipush (v := -102) C.1 C.2.1 dX11_count_82 (by decide) ?_
      have hq := fun {k : Nat} (hk : k ≤ 5) => sw_out (N := 5) (Or.inr hs2) (by decide) (w := w) (j := k) hk
      rw [show (oCount (pn P) w (F, B, G, dk)) = (0, -102, (F, B, G, dk)) by unfold oCount; rw [if_neg (show ¬ w = 0 from hq (k := 0) (by decide)), if_neg (show ¬ w = 1 from hq (k := 1) (by decide)), if_neg (show ¬ w = 2 from hq (k := 2) (by decide)), if_neg (show ¬ w = 3 from hq (k := 3) (by decide)), if_neg (show ¬ w = 4 from hq (k := 4) (by decide)), if_neg (show ¬ w = 5 from hq (k := 5) (by decide))]]
      exact ct_i C hr hlocks rfl (fun t ht hW => mz_mk hro hw ht hW) hS (Nat.le_of_ble_eq_true rfl) (Nat.le_of_ble_eq_true rfl) dX11_count_84
    · obtain ⟨k, hk7, rfl⟩ := sw_cases (N := 5) hs1 hs2 (by decide)
      rcases (show k = 0 ∨ k = 1 ∨ k = 2 ∨ k = 3 ∨ k = 4 ∨ k = 5 by omega) with rfl | rfl | rfl | rfl | rfl | rfl
      · refine lv_tableIn (tgt := 44) C.1 C.2.1 dX11_count_6 hs1 hs2 rfl (by decide) ?_
        refine lv_aload_n C.1 C.2.1 dX11_count_44 rfl (lv_at hl 0 rfl) ?_
        refine mg_get C hw 1 (by decide) tb_709 rfl dX11_count_45 ?_
        rw [show (oCount (pn P) (nI 0) (F, B, G, dk)) = (0, nI (pn P), (F, B, G, dk)) from rfl]
        exact ct_i C hr hlocks rfl (fun t ht hW => mz_mk hro hw ht hW) hS (Nat.le_of_ble_eq_true rfl) (Nat.le_of_ble_eq_true rfl) dX11_count_48
      · refine lv_tableIn (tgt := 49) C.1 C.2.1 dX11_count_6 hs1 hs2 rfl (by decide) ?_
        refine lv_aload_n C.1 C.2.1 dX11_count_49 rfl (lv_at hl 0 rfl) ?_
        refine mg_get C hw 11 (by decide) tb_719 rfl dX11_count_50 ?_
        rw [show (oCount (pn P) (nI 1) (F, B, G, dk)) = (0, nI dk.length, (F, B, G, dk)) from rfl]
        exact ct_i C hr hlocks rfl (fun t ht hW => mz_mk hro hw ht hW) hS (Nat.le_of_ble_eq_true rfl) (Nat.le_of_ble_eq_true rfl) dX11_count_53
      · refine lv_tableIn (tgt := 54) C.1 C.2.1 dX11_count_6 hs1 hs2 rfl (by decide) ?_
        refine lv_aload_n C.1 C.2.1 dX11_count_54 rfl (lv_at hl 0 rfl) ?_
        refine mg_get C hw 13 (by decide) tb_721 rfl dX11_count_55 ?_
        rw [show (oCount (pn P) (nI 2) (F, B, G, dk)) = (0, G 3, (F, B, G, dk)) from rfl]
        exact ct_i C hr hlocks rfl (fun t ht hW => mz_mk hro hw ht hW) hS (Nat.le_of_ble_eq_true rfl) (Nat.le_of_ble_eq_true rfl) dX11_count_58
      · refine lv_tableIn (tgt := 59) C.1 C.2.1 dX11_count_6 hs1 hs2 rfl (by decide) ?_
        refine lv_aload_n C.1 C.2.1 dX11_count_59 rfl (lv_at hl 0 rfl) ?_
        refine mg_get C hw 14 (by decide) tb_722 rfl dX11_count_60 ?_
        refine lv_if_eq (tgt := 70) C.1 C.2.1 dX11_count_63 (by decide) (fun h1 => ?_) (fun h1 => ?_)
        · refine lv_iconst (v := 1) C.1 C.2.1 dX11_count_70 (by decide) ?_
          rw [show (oCount (pn P) (nI 3) (F, B, G, dk)) = (0, 1, (F, B, G, dk)) from congrArg (fun v : Int32 => ((0, v, (F, B, G, dk)) : R3)) (if_neg (opn_0 h1))]
          exact ct_i C hr hlocks rfl (fun t ht hW => mz_mk hro hw ht hW) hS (Nat.le_of_ble_eq_true rfl) (Nat.le_of_ble_eq_true rfl) dX11_count_71
        · refine lv_iconst (v := 0) C.1 C.2.1 dX11_count_66 (by decide) ?_
          refine lv_goto (tgt := 71) C.1 C.2.1 dX11_count_67 (by decide) ?_
          rw [show (oCount (pn P) (nI 3) (F, B, G, dk)) = (0, 0, (F, B, G, dk)) from congrArg (fun v : Int32 => ((0, v, (F, B, G, dk)) : R3)) (if_pos (opn_1 h1))]
          exact ct_i C hr hlocks rfl (fun t ht hW => mz_mk hro hw ht hW) hS (Nat.le_of_ble_eq_true rfl) (Nat.le_of_ble_eq_true rfl) dX11_count_71
      · refine lv_tableIn (tgt := 72) C.1 C.2.1 dX11_count_6 hs1 hs2 rfl (by decide) ?_
        refine lv_aload_n C.1 C.2.1 dX11_count_72 rfl (lv_at hl 0 rfl) ?_
        refine mg_get C hw 15 (by decide) tb_723 rfl dX11_count_73 ?_
        rw [show (oCount (pn P) (nI 4) (F, B, G, dk)) = (0, G 5, (F, B, G, dk)) from rfl]
        exact ct_i C hr hlocks rfl (fun t ht hW => mz_mk hro hw ht hW) hS (Nat.le_of_ble_eq_true rfl) (Nat.le_of_ble_eq_true rfl) dX11_count_76
      · refine lv_tableIn (tgt := 77) C.1 C.2.1 dX11_count_6 hs1 hs2 rfl (by decide) ?_
        refine lv_aload_n C.1 C.2.1 dX11_count_77 rfl (lv_at hl 0 rfl) ?_
        refine mg_get C hw 16 (by decide) tb_724 rfl dX11_count_78 ?_
        rw [show (oCount (pn P) (nI 5) (F, B, G, dk)) = (0, G 6, (F, B, G, dk)) from rfl]
        exact ct_i C hr hlocks rfl (fun t ht hW => mz_mk hro hw ht hW) hS (Nat.le_of_ble_eq_true rfl) (Nat.le_of_ble_eq_true rfl) dX11_count_81
set_option maxHeartbeats 400000 in
set_option maxRecDepth 100000 in
/-- it swings open, or shuts -/
theorem c_X11_swing (l : Launch) (D : va_G) (A : Nat → Prop) (P : SwP) (q : Nat → Nat) (cI : Nat) (F : Nat → Nat → Int32) (B G : Nat → Int32) (dk : List Nat) (thr : Int32) (b : Int32) (hI : Inv P (F, B, G, dk)) (hb : b = 0 ∨ b = 1) : Ct l yX11_swing (.code yX11_swing cX11_swing 2 (some .int)) ({ frames := 6, cells := 0, slots := 0, locals := 160 }) A [.ref (q 0), .int b] (Mz D A q cI (pn P) F B G dk thr) (.inl (some (.int (oSwing b (F, B, G, dk)).2.1))) (Mz D A q cI (pn P) (oSwing b (F, B, G, dk)).2.2.1 (oSwing b (F, B, G, dk)).2.2.2.1 (oSwing b (F, B, G, dk)).2.2.2.2.1 (oSwing b (F, B, G, dk)).2.2.2.2.2 0) := by
  refine ct_mk (by decide) (Nat.le_of_ble_eq_true rfl) (fun p e s m below meth c ls C hr hlocks hnm htab hP hl => ?_)
  obtain ⟨r, dv, hro, hw⟩ := hP
  have hS : va_S A s.heap s.heap [] := va_S.rf
  have hl : lv_has ls 2 [(0, .ref (q 0)), (1, .int b)] := hl
  have hO : Ok P F dk := hI.1
  have hL : dk.length ≤ 24 := hO.len
  rcases hb with rfl | rfl
  · rcases hI.2.1 with e4 | e4
    · have e4 : G 4 = 0 := e4
      have hdk : dk = [] := hI.2.2.2.2.1 e4
      refine lv_aload_n C.1 C.2.1 dX11_swing_0 rfl (lv_at hl 0 rfl) ?_
      refine lv_iconst (v := 0) C.1 C.2.1 dX11_swing_1 (by decide) ?_
      refine mp_thr C hw hS tb_708 dX11_swing_2 (fun H locs hw hS => ?_)
      refine lv_iload_n C.1 C.2.1 dX11_swing_5 rfl (lv_at hl 1 rfl) ?_
      refine lv_aload_n C.1 C.2.1 dX11_swing_6 rfl (lv_at hl 0 rfl) ?_
      refine mg_get C hw 14 (by decide) tb_722 rfl dX11_swing_7 ?_
      rw [show opn G = 1 from if_pos e4]
      refine lv_icmp_ne (tgt := 15) C.1 C.2.1 dX11_swing_10 (by decide) (fun _ => ?_) (fun h9 => absurd h9 (by decide))
      refine lv_iload_n C.1 C.2.1 dX11_swing_15 rfl (lv_at hl 1 rfl) ?_
      refine lv_if_eq (tgt := 29) C.1 C.2.1 dX11_swing_16 (by decide) (fun _ => ?_) (fun h9 => absurd (by decide) h9)
      refine lv_aload_n C.1 C.2.1 dX11_swing_29 rfl (lv_at hl 0 rfl) ?_
      refine lv_iload_n C.1 C.2.1 dX11_swing_30 rfl (lv_at hl 1 rfl) ?_
      refine mp_open (w := 1) C hw hS tb_722 (by decide) (by decide) dX11_swing_31 (fun H locs hw hS => ?_)
      refine lv_iconst (v := 1) C.1 C.2.1 dX11_swing_34 (by decide) ?_
      rw [show (oSwing 0 (F, B, G, dk)) = (0, 1, F, B, upd G 4 1, dk) from (if_neg (fun z => z.1 rfl)).trans (by rw [if_pos (show (0 : Int32) = G 4 by rw [e4])]; rfl)]
      exact ct_i C hr hlocks rfl (fun t ht hW => mz_mk hro hw ht hW) hS (Nat.le_of_ble_eq_true rfl) (Nat.le_of_ble_eq_true rfl) dX11_swing_35
    · have e4 : G 4 = 1 := e4
      refine lv_aload_n C.1 C.2.1 dX11_swing_0 rfl (lv_at hl 0 rfl) ?_
      refine lv_iconst (v := 0) C.1 C.2.1 dX11_swing_1 (by decide) ?_
      refine mp_thr C hw hS tb_708 dX11_swing_2 (fun H locs hw hS => ?_)
      refine lv_iload_n C.1 C.2.1 dX11_swing_5 rfl (lv_at hl 1 rfl) ?_
      refine lv_aload_n C.1 C.2.1 dX11_swing_6 rfl (lv_at hl 0 rfl) ?_
      refine mg_get C hw 14 (by decide) tb_722 rfl dX11_swing_7 ?_
      rw [show opn G = 0 from if_neg (by rw [e4]; decide)]
      refine lv_icmp_ne (tgt := 15) C.1 C.2.1 dX11_swing_10 (by decide) (fun h9 => absurd (by decide) h9) (fun _ => ?_)
      refine lv_iconst (v := 0) C.1 C.2.1 dX11_swing_13 (by decide) ?_
      rw [show (oSwing 0 (F, B, G, dk)) = (0, 0, F, B, G, dk) from (if_neg (fun z => z.1 rfl)).trans (by rw [if_neg (show ¬ (0 : Int32) = G 4 by rw [e4]; decide), show upd G 4 (if (0 : Int32) = 0 then 1 else 0) = G from upd_eq e4])]
      exact ct_i C hr hlocks rfl (fun t ht hW => mz_mk hro hw ht hW) hS (Nat.le_of_ble_eq_true rfl) (Nat.le_of_ble_eq_true rfl) dX11_swing_14
  · rcases hI.2.1 with e4 | e4
    · have e4 : G 4 = 0 := e4
      have hdk : dk = [] := hI.2.2.2.2.1 e4
      refine lv_aload_n C.1 C.2.1 dX11_swing_0 rfl (lv_at hl 0 rfl) ?_
      refine lv_iconst (v := 0) C.1 C.2.1 dX11_swing_1 (by decide) ?_
      refine mp_thr C hw hS tb_708 dX11_swing_2 (fun H locs hw hS => ?_)
      refine lv_iload_n C.1 C.2.1 dX11_swing_5 rfl (lv_at hl 1 rfl) ?_
      refine lv_aload_n C.1 C.2.1 dX11_swing_6 rfl (lv_at hl 0 rfl) ?_
      refine mg_get C hw 14 (by decide) tb_722 rfl dX11_swing_7 ?_
      rw [show opn G = 1 from if_pos e4]
      refine lv_icmp_ne (tgt := 15) C.1 C.2.1 dX11_swing_10 (by decide) (fun h9 => absurd (by decide) h9) (fun _ => ?_)
      refine lv_iconst (v := 0) C.1 C.2.1 dX11_swing_13 (by decide) ?_
      rw [show (oSwing 1 (F, B, G, dk)) = (0, 0, F, B, G, dk) from (if_neg (fun z => z.2 hdk)).trans (by rw [if_neg (show ¬ (1 : Int32) = G 4 by rw [e4]; decide), show upd G 4 (if (1 : Int32) = 0 then 1 else 0) = G from upd_eq e4])]
      exact ct_i C hr hlocks rfl (fun t ht hW => mz_mk hro hw ht hW) hS (Nat.le_of_ble_eq_true rfl) (Nat.le_of_ble_eq_true rfl) dX11_swing_14
    · have e4 : G 4 = 1 := e4
      refine lv_aload_n C.1 C.2.1 dX11_swing_0 rfl (lv_at hl 0 rfl) ?_
      refine lv_iconst (v := 0) C.1 C.2.1 dX11_swing_1 (by decide) ?_
      refine mp_thr C hw hS tb_708 dX11_swing_2 (fun H locs hw hS => ?_)
      refine lv_iload_n C.1 C.2.1 dX11_swing_5 rfl (lv_at hl 1 rfl) ?_
      refine lv_aload_n C.1 C.2.1 dX11_swing_6 rfl (lv_at hl 0 rfl) ?_
      refine mg_get C hw 14 (by decide) tb_722 rfl dX11_swing_7 ?_
      rw [show opn G = 0 from if_neg (by rw [e4]; decide)]
      refine lv_icmp_ne (tgt := 15) C.1 C.2.1 dX11_swing_10 (by decide) (fun _ => ?_) (fun h9 => absurd h9 (by decide))
      refine lv_iload_n C.1 C.2.1 dX11_swing_15 rfl (lv_at hl 1 rfl) ?_
      refine lv_if_eq (tgt := 29) C.1 C.2.1 dX11_swing_16 (by decide) (fun h9 => absurd h9 (by decide)) (fun _ => ?_)
      refine lv_aload_n C.1 C.2.1 dX11_swing_19 rfl (lv_at hl 0 rfl) ?_
      refine mg_get C hw 11 (by decide) tb_719 rfl dX11_swing_20 ?_
      refine lv_if_le (tgt := 29) C.1 C.2.1 dX11_swing_23 (by decide) (fun h1 => ?_) (fun h1 => ?_)
      · refine lv_aload_n C.1 C.2.1 dX11_swing_29 rfl (lv_at hl 0 rfl) ?_
        refine lv_iload_n C.1 C.2.1 dX11_swing_30 rfl (lv_at hl 1 rfl) ?_
        refine mp_open (w := 0) C hw hS tb_722 (by decide) (by decide) dX11_swing_31 (fun H locs hw hS => ?_)
        refine lv_iconst (v := 1) C.1 C.2.1 dX11_swing_34 (by decide) ?_
        rw [show (oSwing 1 (F, B, G, dk)) = (0, 1, F, B, upd G 4 0, dk) from (if_neg (fun z => z.2 (le0_nil h1 hL))).trans (by rw [if_pos (show (1 : Int32) = G 4 by rw [e4])]; rfl)]
        exact ct_i C hr hlocks rfl (fun t ht hW => mz_mk hro hw ht hW) hS (Nat.le_of_ble_eq_true rfl) (Nat.le_of_ble_eq_true rfl) dX11_swing_35
      · refine lv_bipush (v := -103) C.1 C.2.1 dX11_swing_26 (by decide) ?_
        rw [show (oSwing 1 (F, B, G, dk)) = (0, -103, F, B, G, dk) from if_pos ⟨by decide, fun z => h1 (by rw [show dk = [] from z]; exact Int32.le_refl 0)⟩]
        exact ct_i C hr hlocks rfl (fun t ht hW => mz_mk hro hw ht hW) hS (Nat.le_of_ble_eq_true rfl) (Nat.le_of_ble_eq_true rfl) dX11_swing_28
