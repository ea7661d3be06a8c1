theorem RowOk.push {r : Nat → Int32} {dk : List Nat} {i : Nat} (h : RowOk r dk) : RowOk (upd r dk.length (nI i)) (dk ++ [i]) := fun k v hv => by
  unfold upd
  by_cases q : k = dk.length
  · subst q
    rw [if_pos rfl]
    simp at hv
    rw [hv]
  · rw [if_neg q]
    by_cases q2 : k < dk.length
    · rw [List.getElem?_append_left q2] at hv
      exact h k v hv
    · rw [List.getElem?_eq_none (by simp; omega)] at hv
      cases hv
theorem pE_G3 {K : Nat → Nat} {i : Nat} {h : Int32} {F : Nat → Nat → Int32} {B G : Nat → Int32} {dk : List Nat} : (pE K i h (F, B, G, dk)).2.2.2.1 3 = G 3 := by
  cases h1 : fR K F G dk i with
  | false => rw [pE_s h1]; rfl
  | true =>
    cases h2 : tX (K i) F i with
    | true => rw [pE_x h1 h2]; rfl
    | false => rw [pE_0 h1 h2]
theorem pE_3 {K : Nat → Nat} {i : Nat} {h : Int32} {F : Nat → Nat → Int32} {B G : Nat → Int32} {dk : List Nat} : (pE K i h (F, B, G, dk)).1 < 3 := by
  cases h1 : fR K F G dk i with
  | false => rw [pE_s h1]; exact (show (1 : Nat) < 3 by decide)
  | true =>
    cases h2 : tX (K i) F i with
    | true => rw [pE_x h1 h2]; exact (show (2 : Nat) < 3 by decide)
    | false => rw [pE_0 h1 h2]; exact (show (0 : Nat) < 3 by decide)
theorem lim_1 {g : Nat} (hg : g ≤ 9000) (h : nI g ≤ 100) : mx (nI g - 100) 0 = 0 := by
  rw [mx_lim hg]
  have h1 : g ≤ 100 := (nI_leI (a := g) (b := 100) (by omega) (by omega)).mp h
  rw [show g - 100 = 0 by omega]; rfl
theorem lim_2 {g : Nat} (hg : g ≤ 9000) (h : ¬ nI g ≤ 100) : mx (nI g - 100) 0 = nI g - 100 := by
  rw [mx_lim hg]
  have h1 : 100 ≤ g := Nat.le_of_not_lt (fun q => h (nI_le (a := g) (b := 100) (by omega) (by omega)))
  exact (pk_sub h1).symm
theorem mz_mk {D : va_G} {A : Nat → Prop} {q : Nat → Nat} {cI n : Nat} {F : Nat → Nat → Int32} {B G : Nat → Int32} {dk : List Nat} {thr dv : Int32} {r : Nat → Int32} {s t : State} {H : Heap} (hr : RowOk r dk) (hw : MwR D A q cI n F B G (nI dk.length) r thr dv s H) (ht : t.heap = H) (hW : s.WarmedH t.vm) : Mz D A q cI n F B G dk thr t := ⟨r, dv, hr, m_post hw ht hW⟩
set_option maxHeartbeats 400000 in
set_option maxRecDepth 100000 in
/-- ENTER by CART -/
theorem c_X11_plainEnter (l : Launch) (D : va_G) (A : Nat → Prop) (P : SwP) (q : Nat → Nat) (cI : Nat) (F : Nat → Nat → Int32) (B G : Nat → Int32) (dk : List Nat) (thr : Int32) (hO : Ok P F dk) (i : Nat) (hi : i < pn P) (h : Int32) (hn : dk.length < 24) : Ct l yX11_plainEnter (.code yX11_plainEnter cX11_plainEnter 4 (some .int)) ({ frames := 3, cells := 0, slots := 0, locals := 71 }) A [.ref (q 0), .int (nI i), .int h] (Mz D A q cI (pn P) F B G dk thr) (.inl (some (.int (nI (pE (pk P) i h (F, B, G, dk)).1)))) (Mz D A q cI (pn P) (pE (pk P) i h (F, B, G, dk)).2.1 (pE (pk P) i h (F, B, G, dk)).2.2.1 (pE (pk P) i h (F, B, G, dk)).2.2.2.1 (pE (pk P) i h (F, B, G, dk)).2.2.2.2 thr) := by
  refine ct_mk (by decide) (Nat.le_of_ble_eq_true rfl) (fun p e s m below meth c ls C hr hlocks hnm htab hP hl => ?_)
  obtain ⟨r, dv, hro, hw⟩ := hP
  have hS : va_S A s.heap s.heap [] := va_S.rf
  have hl : lv_has ls 4 [(0, .ref (q 0)), (1, .int (nI i)), (2, .int h)] := hl
  have hL : dk.length ≤ 24 := hO.len
  have hi24 : i < 24 := Nat.lt_of_lt_of_le hi hO.1
  have hki : pk P i < 9 := hO.2.1 i hi
  refine m_bump C hw tb_720 (lv_at hl 0 rfl) dX11_plainEnter_0 dX11_plainEnter_1 ?_
  refine lv_iconst (v := 0) C.1 C.2.1 dX11_plainEnter_4 (by decide) ?_
  refine m_inc C hw hS (j := 0) (by decide) (by decide) dX11_plainEnter_5 dX11_plainEnter_6 dX11_plainEnter_7 dX11_plainEnter_8 dX11_plainEnter_9 (fun H locs hw hS => ?_)
  refine lv_aload_n C.1 C.2.1 dX11_plainEnter_10 rfl (lv_at hl 0 rfl) ?_
  refine lv_iload_n C.1 C.2.1 dX11_plainEnter_11 rfl (lv_at hl 1 rfl) ?_
  refine ct_ret (ct_V0 C (c_X11_isFit l D A P q cI F _ G dk r thr dv hO hro i hi) Mp_bl (Or.inl rfl) tb_808 tb_3 ⟨Nat.le_of_ble_eq_true rfl, Nat.le_of_ble_eq_true rfl⟩ tb_805 ⟨by decide, by decide⟩ tbp_7 tb_807 (m_recv hw) (fun U hU hW => m_post hw hU hW) (sig_code (C.2.2.2.2 _ tb_808)) (by show _ = some 1; decide +kernel) hl.1 rfl (Nat.le_of_ble_eq_true rfl) dX11_plainEnter_12 ⟨Nat.le_of_ble_eq_true rfl, Nat.le_of_ble_eq_true rfl⟩) hS (fun _ h => h) (fun t H locs ht hvm hw _ _ hS => ?_)
  have hw := m_back hw ht hvm
  refine lv_if_ne (tgt := 30) C.1 C.2.1 dX11_plainEnter_15 (by decide) (fun h1 => ?_) (fun h1 => ?_)
  · refine lv_aload_n C.1 C.2.1 dX11_plainEnter_30 rfl (lv_at hl 0 rfl) ?_
    refine lv_iload_n C.1 C.2.1 dX11_plainEnter_31 rfl (lv_at hl 1 rfl) ?_
    refine lv_iload_n C.1 C.2.1 dX11_plainEnter_32 rfl (lv_at hl 2 rfl) ?_
    refine ct_ret (ct_V0 C (c_X11_tollOf l D A q _ _ _ _ _ _ _ _ _ i (pk P i) hi24 hki (hO.2.2.1 i hi) h) Mp_bl (Or.inl rfl) tb_796 tb_3 ⟨Nat.le_of_ble_eq_true rfl, Nat.le_of_ble_eq_true rfl⟩ tb_793 ⟨by decide, by decide⟩ tbp_5 tb_795 (m_recv hw) (fun U hU hW => m_post hw hU hW) (sig_code (C.2.2.2.2 _ tb_796)) (by show _ = some 2; decide +kernel) hl.1 rfl (Nat.le_of_ble_eq_true rfl) dX11_plainEnter_33 ⟨Nat.le_of_ble_eq_true rfl, Nat.le_of_ble_eq_true rfl⟩) hS (fun _ h => h) (fun t H locs ht hvm hw _ _ hS => ?_)
    have hw := m_back hw ht hvm
    refine lv_istore_n (lv' := [(3, .int (tR (pk P i) F i h)), (0, .ref (q 0)), (1, .int (nI i)), (2, .int (h))]) C.1 C.2.1 dX11_plainEnter_36 rfl hl (by decide) rfl (fun ls hl => ?_)
    refine lv_aload_n C.1 C.2.1 dX11_plainEnter_37 rfl (lv_at hl 1 rfl) ?_
    refine mg_get C hw 17 (by decide) tb_725 rfl dX11_plainEnter_38 ?_
    refine lv_if_eq (tgt := 46) C.1 C.2.1 dX11_plainEnter_41 (by decide) (fun h2 => ?_) (fun h2 => ?_)
    · refine lv_aload_n C.1 C.2.1 dX11_plainEnter_46 rfl (lv_at hl 1 rfl) ?_
      refine mg_get C hw 7 (by decide) tb_715 rfl dX11_plainEnter_47 ?_
      refine lv_iload_n C.1 C.2.1 dX11_plainEnter_50 rfl (lv_at hl 2 rfl) ?_
      refine lv_dup2_11 C.1 C.2.1 dX11_plainEnter_51 rfl rfl ?_
      refine ma_paid C hw hi24 rfl dX11_plainEnter_52 ?_
      refine lv_iload_n C.1 C.2.1 dX11_plainEnter_53 rfl (lv_at hl 0 rfl) ?_
      refine lv_iadd C.1 C.2.1 dX11_plainEnter_54 ?_
      refine ms_paid C hw hS hi24 rfl dX11_plainEnter_55 (fun H locs hw hS => ?_)
      refine lv_aload_n C.1 C.2.1 dX11_plainEnter_56 rfl (lv_at hl 1 rfl) ?_
      refine mg_get C hw 8 (by decide) tb_716 rfl dX11_plainEnter_57 ?_
      refine lv_iload_n C.1 C.2.1 dX11_plainEnter_60 rfl (lv_at hl 2 rfl) ?_
      refine lv_dup2_11 C.1 C.2.1 dX11_plainEnter_61 rfl rfl ?_
      refine ma_times C hw hi24 rfl dX11_plainEnter_62 ?_
      refine lv_iconst (v := 1) C.1 C.2.1 dX11_plainEnter_63 (by decide) ?_
      refine lv_iadd C.1 C.2.1 dX11_plainEnter_64 ?_
      refine ms_times C hw hS hi24 rfl dX11_plainEnter_65 (fun H locs hw hS => ?_)
      refine lv_aload_n C.1 C.2.1 dX11_plainEnter_66 rfl (lv_at hl 1 rfl) ?_
      refine mg_get C hw 6 (by decide) tb_714 rfl dX11_plainEnter_67 ?_
      refine lv_iload_n C.1 C.2.1 dX11_plainEnter_70 rfl (lv_at hl 2 rfl) ?_
      refine lv_iconst (v := 1) C.1 C.2.1 dX11_plainEnter_71 (by decide) ?_
      refine ms_place C hw hS hi24 rfl dX11_plainEnter_72 (fun H locs hw hS => ?_)
      refine lv_aload_n C.1 C.2.1 dX11_plainEnter_73 rfl (lv_at hl 1 rfl) ?_
      refine mg_get C hw 10 (by decide) tb_718 rfl dX11_plainEnter_74 ?_
      refine lv_aload_n C.1 C.2.1 dX11_plainEnter_77 rfl (lv_at hl 1 rfl) ?_
      refine mg_get C hw 11 (by decide) tb_719 rfl dX11_plainEnter_78 ?_
      refine lv_iload_n C.1 C.2.1 dX11_plainEnter_81 rfl (lv_at hl 2 rfl) ?_
      refine ms_row C hw hS hn rfl dX11_plainEnter_82 (fun H locs hw hS => ?_)
      refine lv_aload_n C.1 C.2.1 dX11_plainEnter_83 rfl (lv_at hl 1 rfl) ?_
      refine lv_dup C.1 C.2.1 dX11_plainEnter_84 rfl ?_
      refine mg_get C hw 11 (by decide) tb_719 rfl dX11_plainEnter_85 ?_
      refine lv_iconst (v := 1) C.1 C.2.1 dX11_plainEnter_88 (by decide) ?_
      refine lv_iadd C.1 C.2.1 dX11_plainEnter_89 ?_
      refine mp_cnt C hw hS tb_719 dX11_plainEnter_90 (fun H locs hw hS => ?_)
      refine lv_iconst (v := 0) C.1 C.2.1 dX11_plainEnter_93 (by decide) ?_
      rw [show tG (pk P i) F i G = G from if_neg (by rw [b2i_0 h2]; decide), uF_ne (F := F) (b := 8) (v := 7) (by decide), len_push (i := i)] at hw
      rw [pE_0 (K := pk P) (h := h) (B := B) (b2i_1 h1) (b2i_0 h2)]
      exact ct_i C hr hlocks rfl (fun t ht hW => mz_mk hro.push hw ht hW) hS (Nat.le_of_ble_eq_true rfl) (Nat.le_of_ble_eq_true rfl) dX11_plainEnter_94
    · refine lv_iconst (v := 2) C.1 C.2.1 dX11_plainEnter_44 (by decide) ?_
      rw [show tG (pk P i) F i G = upd G 6 (G 6 + 1) from if_pos (b2i_1 h2)] at hw
      rw [pE_x (K := pk P) (h := h) (B := B) (b2i_1 h1) (b2i_1 h2)]
      exact ct_i C hr hlocks rfl (fun t ht hW => mz_mk hro hw ht hW) hS (Nat.le_of_ble_eq_true rfl) (Nat.le_of_ble_eq_true rfl) dX11_plainEnter_45
  · refine lv_aload_n C.1 C.2.1 dX11_plainEnter_18 rfl (lv_at hl 0 rfl) ?_
    refine lv_dup C.1 C.2.1 dX11_plainEnter_19 rfl ?_
    refine mg_get C hw 15 (by decide) tb_723 rfl dX11_plainEnter_20 ?_
    refine lv_iconst (v := 1) C.1 C.2.1 dX11_plainEnter_23 (by decide) ?_
    refine lv_iadd C.1 C.2.1 dX11_plainEnter_24 ?_
    refine mp_stop C hw hS tb_723 dX11_plainEnter_25 (fun H locs hw hS => ?_)
    refine lv_iconst (v := 1) C.1 C.2.1 dX11_plainEnter_28 (by decide) ?_
    rw [pE_s (K := pk P) (h := h) (B := B) (b2i_0 h1)]
    exact ct_i C hr hlocks rfl (fun t ht hW => mz_mk hro hw ht hW) hS (Nat.le_of_ble_eq_true rfl) (Nat.le_of_ble_eq_true rfl) dX11_plainEnter_29
set_option maxHeartbeats 400000 in
set_option maxRecDepth 100000 in
/-- ENTER -/
theorem c_X11_enters (l : Launch) (D : va_G) (A : Nat → Prop) (P : SwP) (q : Nat → Nat) (cI : Nat) (F : Nat → Nat → Int32) (B G : Nat → Int32) (dk : List Nat) (thr : Int32) (hO : Ok P F dk) (i : Nat) (hi : i < pn P) (h : Int32) (hn : dk.length < 24) (hlim : ∃ g : Nat, g ≤ 9000 ∧ G 3 = nI g) : Ct l yX11_enters (.code yX11_enters cX11_enters 4 (some .int)) ({ frames := 4, cells := 0, slots := 0, locals := 94 }) A [.ref (q 0), .int (nI i), .int h] (Mz D A q cI (pn P) F B G dk thr) (.inl (some (.int (nI (eN (pk P) i h (F, B, G, dk)).1)))) (Mz D A q cI (pn P) (eN (pk P) i h (F, B, G, dk)).2.1 (eN (pk P) i h (F, B, G, dk)).2.2.1 (eN (pk P) i h (F, B, G, dk)).2.2.2.1 (eN (pk P) i h (F, B, G, dk)).2.2.2.2 thr) := by
  refine ct_mk (by decide) (Nat.le_of_ble_eq_true rfl) (fun p e s m below meth c ls C hr hlocks hnm htab hP hl => ?_)
  obtain ⟨r, dv, hro, hw⟩ := hP
  have hS : va_S A s.heap s.heap [] := va_S.rf
  have hl : lv_has ls 4 [(0, .ref (q 0)), (1, .int (nI i)), (2, .int h)] := hl
  have hL : dk.length ≤ 24 := hO.len
  have hi24 : i < 24 := Nat.lt_of_lt_of_le hi hO.1
  have hki : pk P i < 9 := hO.2.1 i hi
  have hF := hO.2.2.1 i hi
  rcases (show pk P i = 0 ∨ pk P i = 1 ∨ pk P i = 2 ∨ pk P i = 3 ∨ pk P i = 4 ∨ pk P i = 5 ∨ pk P i = 6 ∨ pk P i = 7 ∨ pk P i = 8 by omega) with e0 | e0 | e0 | e0 | e0 | e0 | e0 | e0 | e0
  · refine lv_aload_n C.1 C.2.1 dX11_enters_0 rfl (lv_at hl 0 rfl) ?_
    refine mg_get C hw 2 (by decide) tb_710 rfl dX11_enters_1 ?_
    refine lv_iload_n C.1 C.2.1 dX11_enters_4 rfl (lv_at hl 1 rfl) ?_
    refine ma_kind C hw hi24 rfl dX11_enters_5 ?_
    rw [show F i 2 = nI 0 by rw [hF, e0]]
    refine lv_tableOut (tgt := 206) C.1 C.2.1 dX11_enters_6 (Or.inl (by decide)) (by decide) ?_
    refine lv_aload_n C.1 C.2.1 dX11_enters_206 rfl (lv_at hl 0 rfl) ?_
    refine lv_iload_n C.1 C.2.1 dX11_enters_207 rfl (lv_at hl 1 rfl) ?_
    refine lv_iload_n C.1 C.2.1 dX11_enters_208 rfl (lv_at hl 2 rfl) ?_
    refine ct_ret (ct_V0 C (c_X11_plainEnter l D A P q cI _ _ _ dk thr hO i hi h hn) Mz_bl (Or.inl rfl) tb_824 tb_3 ⟨Nat.le_of_ble_eq_true rfl, Nat.le_of_ble_eq_true rfl⟩ tb_821 ⟨by decide, by decide⟩ tbp_10 tb_823 (m_recv hw) (fun U hU hW => mz_mk hro hw hU hW) (sig_code (C.2.2.2.2 _ tb_824)) (by show _ = some 2; decide +kernel) hl.1 rfl (Nat.le_of_ble_eq_true rfl) dX11_enters_209 ⟨Nat.le_of_ble_eq_true rfl, Nat.le_of_ble_eq_true rfl⟩) hS (fun _ h => h) (fun t H locs ht hvm hw _ _ hS => ?_)
    obtain ⟨r, dv, hro, hw⟩ := hw
    have hw := m_back hw ht hvm
    rw [show eN (pk P) i h (F, B, G, dk) = pE (pk P) i h (F, B, G, dk) by unfold eN; rw [if_neg (by rw [e0]; decide), if_neg (by rw [e0]; decide), if_neg (by rw [e0]; decide), if_neg (by rw [e0]; decide)]]
    exact ct_i C hr hlocks rfl (fun t ht hW => mz_mk hro hw ht hW) hS (Nat.le_of_ble_eq_true rfl) (Nat.le_of_ble_eq_true rfl) dX11_enters_212
  · refine lv_aload_n C.1 C.2.1 dX11_enters_0 rfl (lv_at hl 0 rfl) ?_
    refine mg_get C hw 2 (by decide) tb_710 rfl dX11_enters_1 ?_
    refine lv_iload_n C.1 C.2.1 dX11_enters_4 rfl (lv_at hl 1 rfl) ?_
    refine ma_kind C hw hi24 rfl dX11_enters_5 ?_
    rw [show F i 2 = nI 1 by rw [hF, e0]]
    refine lv_tableOut (tgt := 206) C.1 C.2.1 dX11_enters_6 (Or.inl (by decide)) (by decide) ?_
    refine lv_aload_n C.1 C.2.1 dX11_enters_206 rfl (lv_at hl 0 rfl) ?_
    refine lv_iload_n C.1 C.2.1 dX11_enters_207 rfl (lv_at hl 1 rfl) ?_
    refine lv_iload_n C.1 C.2.1 dX11_enters_208 rfl (lv_at hl 2 rfl) ?_
    refine ct_ret (ct_V0 C (c_X11_plainEnter l D A P q cI _ _ _ dk thr hO i hi h hn) Mz_bl (Or.inl rfl) tb_824 tb_3 ⟨Nat.le_of_ble_eq_true rfl, Nat.le_of_ble_eq_true rfl⟩ tb_821 ⟨by decide, by decide⟩ tbp_10 tb_823 (m_recv hw) (fun U hU hW => mz_mk hro hw hU hW) (sig_code (C.2.2.2.2 _ tb_824)) (by show _ = some 2; decide +kernel) hl.1 rfl (Nat.le_of_ble_eq_true rfl) dX11_enters_209 ⟨Nat.le_of_ble_eq_true rfl, Nat.le_of_ble_eq_true rfl⟩) hS (fun _ h => h) (fun t H locs ht hvm hw _ _ hS => ?_)
    obtain ⟨r, dv, hro, hw⟩ := hw
    have hw := m_back hw ht hvm
    rw [show eN (pk P) i h (F, B, G, dk) = pE (pk P) i h (F, B, G, dk) by unfold eN; rw [if_neg (by rw [e0]; decide), if_neg (by rw [e0]; decide), if_neg (by rw [e0]; decide), if_neg (by rw [e0]; decide)]]
    exact ct_i C hr hlocks rfl (fun t ht hW => mz_mk hro hw ht hW) hS (Nat.le_of_ble_eq_true rfl) (Nat.le_of_ble_eq_true rfl) dX11_enters_212
  · refine lv_aload_n C.1 C.2.1 dX11_enters_0 rfl (lv_at hl 0 rfl) ?_
    refine mg_get C hw 2 (by decide) tb_710 rfl dX11_enters_1 ?_
    refine lv_iload_n C.1 C.2.1 dX11_enters_4 rfl (lv_at hl 1 rfl) ?_
    refine ma_kind C hw hi24 rfl dX11_enters_5 ?_
    rw [show F i 2 = nI 2 by rw [hF, e0]]
    refine lv_tableOut (tgt := 206) C.1 C.2.1 dX11_enters_6 (Or.inl (by decide)) (by decide) ?_
    refine lv_aload_n C.1 C.2.1 dX11_enters_206 rfl (lv_at hl 0 rfl) ?_
    refine lv_iload_n C.1 C.2.1 dX11_enters_207 rfl (lv_at hl 1 rfl) ?_
    refine lv_iload_n C.1 C.2.1 dX11_enters_208 rfl (lv_at hl 2 rfl) ?_
    refine ct_ret (ct_V0 C (c_X11_plainEnter l D A P q cI _ _ _ dk thr hO i hi h hn) Mz_bl (Or.inl rfl) tb_824 tb_3 ⟨Nat.le_of_ble_eq_true rfl, Nat.le_of_ble_eq_true rfl⟩ tb_821 ⟨by decide, by decide⟩ tbp_10 tb_823 (m_recv hw) (fun U hU hW => mz_mk hro hw hU hW) (sig_code (C.2.2.2.2 _ tb_824)) (by show _ = some 2; decide +kernel) hl.1 rfl (Nat.le_of_ble_eq_true rfl) dX11_enters_209 ⟨Nat.le_of_ble_eq_true rfl, Nat.le_of_ble_eq_true rfl⟩) hS (fun _ h => h) (fun t H locs ht hvm hw _ _ hS => ?_)
    obtain ⟨r, dv, hro, hw⟩ := hw
    have hw := m_back hw ht hvm
    rw [show eN (pk P) i h (F, B, G, dk) = pE (pk P) i h (F, B, G, dk) by unfold eN; rw [if_neg (by rw [e0]; decide), if_neg (by rw [e0]; decide), if_neg (by rw [e0]; decide), if_neg (by rw [e0]; decide)]]
    exact ct_i C hr hlocks rfl (fun t ht hW => mz_mk hro hw ht hW) hS (Nat.le_of_ble_eq_true rfl) (Nat.le_of_ble_eq_true rfl) dX11_enters_212
  · refine lv_aload_n C.1 C.2.1 dX11_enters_0 rfl (lv_at hl 0 rfl) ?_
    refine mg_get C hw 2 (by decide) tb_710 rfl dX11_enters_1 ?_
    refine lv_iload_n C.1 C.2.1 dX11_enters_4 rfl (lv_at hl 1 rfl) ?_
    refine ma_kind C hw hi24 rfl dX11_enters_5 ?_
    rw [show F i 2 = nI 3 by rw [hF, e0]]
    refine lv_tableIn (tgt := 44) C.1 C.2.1 dX11_enters_6 (by decide) (by decide) rfl (by decide) ?_
    refine m_bump C hw tb_720 (lv_at hl 0 rfl) dX11_enters_44 dX11_enters_45 ?_
    refine lv_iconst (v := 3) C.1 C.2.1 dX11_enters_48 (by decide) ?_
    refine m_inc C hw hS (j := 3) (by decide) (by decide) dX11_enters_49 dX11_enters_50 dX11_enters_51 dX11_enters_52 dX11_enters_53 (fun H locs hw hS => ?_)
    refine lv_aload_n C.1 C.2.1 dX11_enters_54 rfl (lv_at hl 0 rfl) ?_
    refine mg_get C hw 9 (by decide) tb_717 rfl dX11_enters_55 ?_
    refine lv_iload_n C.1 C.2.1 dX11_enters_58 rfl (lv_at hl 1 rfl) ?_
    refine lv_dup2_11 C.1 C.2.1 dX11_enters_59 rfl rfl ?_
    refine ma_meter C hw hi24 rfl dX11_enters_60 ?_
    refine lv_iconst (v := 1) C.1 C.2.1 dX11_enters_61 (by decide) ?_
    refine lv_iadd C.1 C.2.1 dX11_enters_62 ?_
    refine ms_meter C hw hS hi24 rfl dX11_enters_63 (fun H locs hw hS => ?_)
    refine lv_aload_n C.1 C.2.1 dX11_enters_64 rfl (lv_at hl 0 rfl) ?_
    refine lv_iload_n C.1 C.2.1 dX11_enters_65 rfl (lv_at hl 1 rfl) ?_
    refine lv_iload_n C.1 C.2.1 dX11_enters_66 rfl (lv_at hl 2 rfl) ?_
    refine ct_ret (ct_V0 C (c_X11_plainEnter l D A P q cI _ _ _ dk thr (hO.uf (by decide)) i hi h hn) Mz_bl (Or.inl rfl) tb_824 tb_3 ⟨Nat.le_of_ble_eq_true rfl, Nat.le_of_ble_eq_true rfl⟩ tb_821 ⟨by decide, by decide⟩ tbp_10 tb_823 (m_recv hw) (fun U hU hW => mz_mk hro hw hU hW) (sig_code (C.2.2.2.2 _ tb_824)) (by show _ = some 2; decide +kernel) hl.1 rfl (Nat.le_of_ble_eq_true rfl) dX11_enters_67 ⟨Nat.le_of_ble_eq_true rfl, Nat.le_of_ble_eq_true rfl⟩) hS (fun _ h => h) (fun t H locs ht hvm hw _ _ hS => ?_)
    obtain ⟨r, dv, hro, hw⟩ := hw
    have hw := m_back hw ht hvm
    rw [show eN (pk P) i h (F, B, G, dk) = pE (pk P) i h (uF F i 9 (F i 9 + 1), iB B 3, G, dk) by unfold eN; rw [if_pos e0]]
    exact ct_i C hr hlocks rfl (fun t ht hW => mz_mk hro hw ht hW) hS (Nat.le_of_ble_eq_true rfl) (Nat.le_of_ble_eq_true rfl) dX11_enters_70
  · refine lv_aload_n C.1 C.2.1 dX11_enters_0 rfl (lv_at hl 0 rfl) ?_
    refine mg_get C hw 2 (by decide) tb_710 rfl dX11_enters_1 ?_
    refine lv_iload_n C.1 C.2.1 dX11_enters_4 rfl (lv_at hl 1 rfl) ?_
    refine ma_kind C hw hi24 rfl dX11_enters_5 ?_
    rw [show F i 2 = nI 4 by rw [hF, e0]]
    refine lv_tableIn (tgt := 206) C.1 C.2.1 dX11_enters_6 (by decide) (by decide) rfl (by decide) ?_
    refine lv_aload_n C.1 C.2.1 dX11_enters_206 rfl (lv_at hl 0 rfl) ?_
    refine lv_iload_n C.1 C.2.1 dX11_enters_207 rfl (lv_at hl 1 rfl) ?_
    refine lv_iload_n C.1 C.2.1 dX11_enters_208 rfl (lv_at hl 2 rfl) ?_
    refine ct_ret (ct_V0 C (c_X11_plainEnter l D A P q cI _ _ _ dk thr hO i hi h hn) Mz_bl (Or.inl rfl) tb_824 tb_3 ⟨Nat.le_of_ble_eq_true rfl, Nat.le_of_ble_eq_true rfl⟩ tb_821 ⟨by decide, by decide⟩ tbp_10 tb_823 (m_recv hw) (fun U hU hW => mz_mk hro hw hU hW) (sig_code (C.2.2.2.2 _ tb_824)) (by show _ = some 2; decide +kernel) hl.1 rfl (Nat.le_of_ble_eq_true rfl) dX11_enters_209 ⟨Nat.le_of_ble_eq_true rfl, Nat.le_of_ble_eq_true rfl⟩) hS (fun _ h => h) (fun t H locs ht hvm hw _ _ hS => ?_)
    obtain ⟨r, dv, hro, hw⟩ := hw
    have hw := m_back hw ht hvm
    rw [show eN (pk P) i h (F, B, G, dk) = pE (pk P) i h (F, B, G, dk) by unfold eN; rw [if_neg (by rw [e0]; decide), if_neg (by rw [e0]; decide), if_neg (by rw [e0]; decide), if_neg (by rw [e0]; decide)]]
    exact ct_i C hr hlocks rfl (fun t ht hW => mz_mk hro hw ht hW) hS (Nat.le_of_ble_eq_true rfl) (Nat.le_of_ble_eq_true rfl) dX11_enters_212
  · refine lv_aload_n C.1 C.2.1 dX11_enters_0 rfl (lv_at hl 0 rfl) ?_
    refine mg_get C hw 2 (by decide) tb_710 rfl dX11_enters_1 ?_
    refine lv_iload_n C.1 C.2.1 dX11_enters_4 rfl (lv_at hl 1 rfl) ?_
    refine ma_kind C hw hi24 rfl dX11_enters_5 ?_
    rw [show F i 2 = nI 5 by rw [hF, e0]]
    refine lv_tableIn (tgt := 71) C.1 C.2.1 dX11_enters_6 (by decide) (by decide) rfl (by decide) ?_
    refine m_bump C hw tb_720 (lv_at hl 0 rfl) dX11_enters_71 dX11_enters_72 ?_
    refine lv_iconst (v := 5) C.1 C.2.1 dX11_enters_75 (by decide) ?_
    refine m_inc C hw hS (j := 5) (by decide) (by decide) dX11_enters_76 dX11_enters_77 dX11_enters_78 dX11_enters_79 dX11_enters_80 (fun H locs hw hS => ?_)
    refine lv_aload_n C.1 C.2.1 dX11_enters_81 rfl (lv_at hl 0 rfl) ?_
    refine lv_iload_n C.1 C.2.1 dX11_enters_82 rfl (lv_at hl 1 rfl) ?_
    refine lv_iload_n C.1 C.2.1 dX11_enters_83 rfl (lv_at hl 2 rfl) ?_
    refine ct_ret (ct_V0 C (c_X11_plainEnter l D A P q cI _ _ _ dk thr hO i hi h hn) Mz_bl (Or.inl rfl) tb_824 tb_3 ⟨Nat.le_of_ble_eq_true rfl, Nat.le_of_ble_eq_true rfl⟩ tb_821 ⟨by decide, by decide⟩ tbp_10 tb_823 (m_recv hw) (fun U hU hW => mz_mk hro hw hU hW) (sig_code (C.2.2.2.2 _ tb_824)) (by show _ = some 2; decide +kernel) hl.1 rfl (Nat.le_of_ble_eq_true rfl) dX11_enters_84 ⟨Nat.le_of_ble_eq_true rfl, Nat.le_of_ble_eq_true rfl⟩) hS (fun _ h => h) (fun t H locs ht hvm hw _ _ hS => ?_)
    obtain ⟨r, dv, hro, hw⟩ := hw
    have hw := m_back hw ht hvm
    refine lv_istore_n (lv' := [(3, .int (nI ((pE (pk P) i h (F, iB B 5, G, dk))).1)), (0, .ref (q 0)), (1, .int (nI i)), (2, .int (h))]) C.1 C.2.1 dX11_enters_87 rfl hl (by decide) rfl (fun ls hl => ?_)
    refine lv_iload_n C.1 C.2.1 dX11_enters_88 rfl (lv_at hl 0 rfl) ?_
    refine lv_if_ne (tgt := 116) C.1 C.2.1 dX11_enters_89 (by decide) (fun h1 => ?_) (fun h1 => ?_)
    · refine lv_iload_n C.1 C.2.1 dX11_enters_116 rfl (lv_at hl 0 rfl) ?_
      rw [show eN (pk P) i h (F, B, G, dk) = eT (pE (pk P) i h (F, iB B 5, G, dk)) by unfold eN; rw [if_neg (by rw [e0]; decide), if_pos e0]]
      rw [show eT (pE (pk P) i h (F, iB B 5, G, dk)) = (pE (pk P) i h (F, iB B 5, G, dk)) from if_neg (fun z => h1 (by rw [z]; rfl))]
      exact ct_i C hr hlocks rfl (fun t ht hW => mz_mk hro hw ht hW) hS (Nat.le_of_ble_eq_true rfl) (Nat.le_of_ble_eq_true rfl) dX11_enters_117
    · refine lv_aload_n C.1 C.2.1 dX11_enters_92 rfl (lv_at hl 1 rfl) ?_
      refine lv_aload_n C.1 C.2.1 dX11_enters_93 rfl (lv_at hl 1 rfl) ?_
      refine mg_get C hw 13 (by decide) tb_721 rfl dX11_enters_94 ?_
      refine lv_bipush (v := 100) C.1 C.2.1 dX11_enters_97 (by decide) ?_
      refine lv_icmp_le (tgt := 112) C.1 C.2.1 dX11_enters_99 (by decide) (fun h2 => ?_) (fun h2 => ?_)
      · refine lv_iconst (v := 0) C.1 C.2.1 dX11_enters_112 (by decide) ?_
        refine mp_lim C hw hS tb_721 dX11_enters_113 (fun H locs hw hS => ?_)
        refine lv_iload_n C.1 C.2.1 dX11_enters_116 rfl (lv_at hl 0 rfl) ?_
        rw [show eN (pk P) i h (F, B, G, dk) = eT (pE (pk P) i h (F, iB B 5, G, dk)) by unfold eN; rw [if_neg (by rw [e0]; decide), if_pos e0]]
        obtain ⟨g, hg, eg⟩ := hlim
        have e3 : (pE (pk P) i h (F, iB B 5, G, dk)).2.2.2.1 3 = nI g := pE_G3.trans eg
        have hp3 : (pE (pk P) i h (F, iB B 5, G, dk)).1 < 3 := pE_3
        have h0 : (pE (pk P) i h (F, iB B 5, G, dk)).1 = 0 := (nI_eq (b := 0) (by omega) (by omega)).mp h1
        rw [e3] at h2
        rw [show eT (pE (pk P) i h (F, iB B 5, G, dk)) = (0, (pE (pk P) i h (F, iB B 5, G, dk)).2.1, (pE (pk P) i h (F, iB B 5, G, dk)).2.2.1, upd (pE (pk P) i h (F, iB B 5, G, dk)).2.2.2.1 3 (mx ((pE (pk P) i h (F, iB B 5, G, dk)).2.2.2.1 3 - 100) 0), (pE (pk P) i h (F, iB B 5, G, dk)).2.2.2.2) from if_pos h0, e3, lim_1 hg h2]
        exact ct_i C hr hlocks (by rw [h0]) (fun t ht hW => mz_mk hro hw ht hW) hS (Nat.le_of_ble_eq_true rfl) (Nat.le_of_ble_eq_true rfl) dX11_enters_117
      · refine lv_aload_n C.1 C.2.1 dX11_enters_102 rfl (lv_at hl 1 rfl) ?_
        refine mg_get C hw 13 (by decide) tb_721 rfl dX11_enters_103 ?_
        refine lv_bipush (v := 100) C.1 C.2.1 dX11_enters_106 (by decide) ?_
        refine lv_isub C.1 C.2.1 dX11_enters_108 ?_
        refine lv_goto (tgt := 113) C.1 C.2.1 dX11_enters_109 (by decide) ?_
        refine mp_lim C hw hS tb_721 dX11_enters_113 (fun H locs hw hS => ?_)
        refine lv_iload_n C.1 C.2.1 dX11_enters_116 rfl (lv_at hl 0 rfl) ?_
        rw [show eN (pk P) i h (F, B, G, dk) = eT (pE (pk P) i h (F, iB B 5, G, dk)) by unfold eN; rw [if_neg (by rw [e0]; decide), if_pos e0]]
        obtain ⟨g, hg, eg⟩ := hlim
        have e3 : (pE (pk P) i h (F, iB B 5, G, dk)).2.2.2.1 3 = nI g := pE_G3.trans eg
        have hp3 : (pE (pk P) i h (F, iB B 5, G, dk)).1 < 3 := pE_3
        have h0 : (pE (pk P) i h (F, iB B 5, G, dk)).1 = 0 := (nI_eq (b := 0) (by omega) (by omega)).mp h1
        rw [e3] at h2 hw
        rw [show eT (pE (pk P) i h (F, iB B 5, G, dk)) = (0, (pE (pk P) i h (F, iB B 5, G, dk)).2.1, (pE (pk P) i h (F, iB B 5, G, dk)).2.2.1, upd (pE (pk P) i h (F, iB B 5, G, dk)).2.2.2.1 3 (mx ((pE (pk P) i h (F, iB B 5, G, dk)).2.2.2.1 3 - 100) 0), (pE (pk P) i h (F, iB B 5, G, dk)).2.2.2.2) from if_pos h0, e3, lim_2 hg h2]
        exact ct_i C hr hlocks (by rw [h0]) (fun t ht hW => mz_mk hro hw ht hW) hS (Nat.le_of_ble_eq_true rfl) (Nat.le_of_ble_eq_true rfl) dX11_enters_117
  · refine lv_aload_n C.1 C.2.1 dX11_enters_0 rfl (lv_at hl 0 rfl) ?_
    refine mg_get C hw 2 (by decide) tb_710 rfl dX11_enters_1 ?_
    refine lv_iload_n C.1 C.2.1 dX11_enters_4 rfl (lv_at hl 1 rfl) ?_
    refine ma_kind C hw hi24 rfl dX11_enters_5 ?_
    rw [show F i 2 = nI 6 by rw [hF, e0]]
    refine lv_tableIn (tgt := 118) C.1 C.2.1 dX11_enters_6 (by decide) (by decide) rfl (by decide) ?_
    refine m_bump C hw tb_720 (lv_at hl 0 rfl) dX11_enters_118 dX11_enters_119 ?_
    refine lv_bipush (v := 6) C.1 C.2.1 dX11_enters_122 (by decide) ?_
    refine m_inc C hw hS (j := 6) (by decide) (by decide) dX11_enters_124 dX11_enters_125 dX11_enters_126 dX11_enters_127 dX11_enters_128 (fun H locs hw hS => ?_)
    refine lv_aload_n C.1 C.2.1 dX11_enters_129 rfl (lv_at hl 0 rfl) ?_
    refine mg_get C hw 4 (by decide) tb_712 rfl dX11_enters_130 ?_
    refine lv_iload_n C.1 C.2.1 dX11_enters_133 rfl (lv_at hl 1 rfl) ?_
    refine lv_aload_n C.1 C.2.1 dX11_enters_134 rfl (lv_at hl 0 rfl) ?_
    refine mg_get C hw 4 (by decide) tb_712 rfl dX11_enters_135 ?_
    refine lv_iload_n C.1 C.2.1 dX11_enters_138 rfl (lv_at hl 1 rfl) ?_
    refine ma_load C hw hi24 rfl dX11_enters_139 ?_
    refine lv_bipush (v := 40) C.1 C.2.1 dX11_enters_140 (by decide) ?_
    refine lv_iadd C.1 C.2.1 dX11_enters_142 ?_
    refine lv_sipush (v := 5000) C.1 C.2.1 dX11_enters_143 (by decide) ?_
    refine lv_icmp_le (tgt := 155) C.1 C.2.1 dX11_enters_146 (by decide) (fun h1 => ?_) (fun h1 => ?_)
    · refine lv_aload_n C.1 C.2.1 dX11_enters_155 rfl (lv_at hl 0 rfl) ?_
      refine mg_get C hw 4 (by decide) tb_712 rfl dX11_enters_156 ?_
      refine lv_iload_n C.1 C.2.1 dX11_enters_159 rfl (lv_at hl 1 rfl) ?_
      refine ma_load C hw hi24 rfl dX11_enters_160 ?_
      refine lv_bipush (v := 40) C.1 C.2.1 dX11_enters_161 (by decide) ?_
      refine lv_iadd C.1 C.2.1 dX11_enters_163 ?_
      refine ms_load C hw hS hi24 rfl dX11_enters_164 (fun H locs hw hS => ?_)
      refine lv_aload_n C.1 C.2.1 dX11_enters_165 rfl (lv_at hl 0 rfl) ?_
      refine lv_iload_n C.1 C.2.1 dX11_enters_166 rfl (lv_at hl 1 rfl) ?_
      refine lv_iload_n C.1 C.2.1 dX11_enters_167 rfl (lv_at hl 2 rfl) ?_
      rw [show (F i 5 + 40 : Int32) = mn (F i 5 + 40) 5000 from (if_neg (Int32.not_lt.mpr h1)).symm] at hw
      refine ct_ret (ct_V0 C (c_X11_plainEnter l D A P q cI _ _ _ dk thr (hO.uf (by decide)) i hi h hn) Mz_bl (Or.inl rfl) tb_824 tb_3 ⟨Nat.le_of_ble_eq_true rfl, Nat.le_of_ble_eq_true rfl⟩ tb_821 ⟨by decide, by decide⟩ tbp_10 tb_823 (m_recv hw) (fun U hU hW => mz_mk hro hw hU hW) (sig_code (C.2.2.2.2 _ tb_824)) (by show _ = some 2; decide +kernel) hl.1 rfl (Nat.le_of_ble_eq_true rfl) dX11_enters_168 ⟨Nat.le_of_ble_eq_true rfl, Nat.le_of_ble_eq_true rfl⟩) hS (fun _ h => h) (fun t H locs ht hvm hw _ _ hS => ?_)
      obtain ⟨r, dv, hro, hw⟩ := hw
      have hw := m_back hw ht hvm
      rw [show eN (pk P) i h (F, B, G, dk) = pE (pk P) i h (uF F i 5 (mn (F i 5 + 40) 5000), iB B 6, G, dk) by unfold eN; rw [if_neg (by rw [e0]; decide), if_neg (by rw [e0]; decide), if_pos (by rw [e0]; decide)]]
      exact ct_i C hr hlocks rfl (fun t ht hW => mz_mk hro hw ht hW) hS (Nat.le_of_ble_eq_true rfl) (Nat.le_of_ble_eq_true rfl) dX11_enters_171
    · refine lv_sipush (v := 5000) C.1 C.2.1 dX11_enters_149 (by decide) ?_
      refine lv_goto (tgt := 164) C.1 C.2.1 dX11_enters_152 (by decide) ?_
      refine ms_load C hw hS hi24 rfl dX11_enters_164 (fun H locs hw hS => ?_)
      refine lv_aload_n C.1 C.2.1 dX11_enters_165 rfl (lv_at hl 0 rfl) ?_
      refine lv_iload_n C.1 C.2.1 dX11_enters_166 rfl (lv_at hl 1 rfl) ?_
      refine lv_iload_n C.1 C.2.1 dX11_enters_167 rfl (lv_at hl 2 rfl) ?_
      rw [show (5000 : Int32) = mn (F i 5 + 40) 5000 from (if_pos (Int32.not_le.mp h1)).symm] at hw
      refine ct_ret (ct_V0 C (c_X11_plainEnter l D A P q cI _ _ _ dk thr (hO.uf (by decide)) i hi h hn) Mz_bl (Or.inl rfl) tb_824 tb_3 ⟨Nat.le_of_ble_eq_true rfl, Nat.le_of_ble_eq_true rfl⟩ tb_821 ⟨by decide, by decide⟩ tbp_10 tb_823 (m_recv hw) (fun U hU hW => mz_mk hro hw hU hW) (sig_code (C.2.2.2.2 _ tb_824)) (by show _ = some 2; decide +kernel) hl.1 rfl (Nat.le_of_ble_eq_true rfl) dX11_enters_168 ⟨Nat.le_of_ble_eq_true rfl, Nat.le_of_ble_eq_true rfl⟩) hS (fun _ h => h) (fun t H locs ht hvm hw _ _ hS => ?_)
      obtain ⟨r, dv, hro, hw⟩ := hw
      have hw := m_back hw ht hvm
      rw [show eN (pk P) i h (F, B, G, dk) = pE (pk P) i h (uF F i 5 (mn (F i 5 + 40) 5000), iB B 6, G, dk) by unfold eN; rw [if_neg (by rw [e0]; decide), if_neg (by rw [e0]; decide), if_pos (by rw [e0]; decide)]]
      exact ct_i C hr hlocks rfl (fun t ht hW => mz_mk hro hw ht hW) hS (Nat.le_of_ble_eq_true rfl) (Nat.le_of_ble_eq_true rfl) dX11_enters_171
  · refine lv_aload_n C.1 C.2.1 dX11_enters_0 rfl (lv_at hl 0 rfl) ?_
    refine mg_get C hw 2 (by decide) tb_710 rfl dX11_enters_1 ?_
    refine lv_iload_n C.1 C.2.1 dX11_enters_4 rfl (lv_at hl 1 rfl) ?_
    refine ma_kind C hw hi24 rfl dX11_enters_5 ?_
    rw [show F i 2 = nI 7 by rw [hF, e0]]
    refine lv_tableIn (tgt := 118) C.1 C.2.1 dX11_enters_6 (by decide) (by decide) rfl (by decide) ?_
    refine m_bump C hw tb_720 (lv_at hl 0 rfl) dX11_enters_118 dX11_enters_119 ?_
    refine lv_bipush (v := 6) C.1 C.2.1 dX11_enters_122 (by decide) ?_
    refine m_inc C hw hS (j := 6) (by decide) (by decide) dX11_enters_124 dX11_enters_125 dX11_enters_126 dX11_enters_127 dX11_enters_128 (fun H locs hw hS => ?_)
    refine lv_aload_n C.1 C.2.1 dX11_enters_129 rfl (lv_at hl 0 rfl) ?_
    refine mg_get C hw 4 (by decide) tb_712 rfl dX11_enters_130 ?_
    refine lv_iload_n C.1 C.2.1 dX11_enters_133 rfl (lv_at hl 1 rfl) ?_
    refine lv_aload_n C.1 C.2.1 dX11_enters_134 rfl (lv_at hl 0 rfl) ?_
    refine mg_get C hw 4 (by decide) tb_712 rfl dX11_enters_135 ?_
    refine lv_iload_n C.1 C.2.1 dX11_enters_138 rfl (lv_at hl 1 rfl) ?_
    refine ma_load C hw hi24 rfl dX11_enters_139 ?_
    refine lv_bipush (v := 40) C.1 C.2.1 dX11_enters_140 (by decide) ?_
    refine lv_iadd C.1 C.2.1 dX11_enters_142 ?_
    refine lv_sipush (v := 5000) C.1 C.2.1 dX11_enters_143 (by decide) ?_
    refine lv_icmp_le (tgt := 155) C.1 C.2.1 dX11_enters_146 (by decide) (fun h1 => ?_) (fun h1 => ?_)
    · refine lv_aload_n C.1 C.2.1 dX11_enters_155 rfl (lv_at hl 0 rfl) ?_
      refine mg_get C hw 4 (by decide) tb_712 rfl dX11_enters_156 ?_
      refine lv_iload_n C.1 C.2.1 dX11_enters_159 rfl (lv_at hl 1 rfl) ?_
      refine ma_load C hw hi24 rfl dX11_enters_160 ?_
      refine lv_bipush (v := 40) C.1 C.2.1 dX11_enters_161 (by decide) ?_
      refine lv_iadd C.1 C.2.1 dX11_enters_163 ?_
      refine ms_load C hw hS hi24 rfl dX11_enters_164 (fun H locs hw hS => ?_)
      refine lv_aload_n C.1 C.2.1 dX11_enters_165 rfl (lv_at hl 0 rfl) ?_
      refine lv_iload_n C.1 C.2.1 dX11_enters_166 rfl (lv_at hl 1 rfl) ?_
      refine lv_iload_n C.1 C.2.1 dX11_enters_167 rfl (lv_at hl 2 rfl) ?_
      rw [show (F i 5 + 40 : Int32) = mn (F i 5 + 40) 5000 from (if_neg (Int32.not_lt.mpr h1)).symm] at hw
      refine ct_ret (ct_V0 C (c_X11_plainEnter l D A P q cI _ _ _ dk thr (hO.uf (by decide)) i hi h hn) Mz_bl (Or.inl rfl) tb_824 tb_3 ⟨Nat.le_of_ble_eq_true rfl, Nat.le_of_ble_eq_true rfl⟩ tb_821 ⟨by decide, by decide⟩ tbp_10 tb_823 (m_recv hw) (fun U hU hW => mz_mk hro hw hU hW) (sig_code (C.2.2.2.2 _ tb_824)) (by show _ = some 2; decide +kernel) hl.1 rfl (Nat.le_of_ble_eq_true rfl) dX11_enters_168 ⟨Nat.le_of_ble_eq_true rfl, Nat.le_of_ble_eq_true rfl⟩) hS (fun _ h => h) (fun t H locs ht hvm hw _ _ hS => ?_)
      obtain ⟨r, dv, hro, hw⟩ := hw
      have hw := m_back hw ht hvm
      rw [show eN (pk P) i h (F, B, G, dk) = pE (pk P) i h (uF F i 5 (mn (F i 5 + 40) 5000), iB B 6, G, dk) by unfold eN; rw [if_neg (by rw [e0]; decide), if_neg (by rw [e0]; decide), if_pos (by rw [e0]; decide)]]
      exact ct_i C hr hlocks rfl (fun t ht hW => mz_mk hro hw ht hW) hS (Nat.le_of_ble_eq_true rfl) (Nat.le_of_ble_eq_true rfl) dX11_enters_171
    · refine lv_sipush (v := 5000) C.1 C.2.1 dX11_enters_149 (by decide) ?_
      refine lv_goto (tgt := 164) C.1 C.2.1 dX11_enters_152 (by decide) ?_
      refine ms_load C hw hS hi24 rfl dX11_enters_164 (fun H locs hw hS => ?_)
      refine lv_aload_n C.1 C.2.1 dX11_enters_165 rfl (lv_at hl 0 rfl) ?_
      refine lv_iload_n C.1 C.2.1 dX11_enters_166 rfl (lv_at hl 1 rfl) ?_
      refine lv_iload_n C.1 C.2.1 dX11_enters_167 rfl (lv_at hl 2 rfl) ?_
      rw [show (5000 : Int32) = mn (F i 5 + 40) 5000 from (if_pos (Int32.not_le.mp h1)).symm] at hw
      refine ct_ret (ct_V0 C (c_X11_plainEnter l D A P q cI _ _ _ dk thr (hO.uf (by decide)) i hi h hn) Mz_bl (Or.inl rfl) tb_824 tb_3 ⟨Nat.le_of_ble_eq_true rfl, Nat.le_of_ble_eq_true rfl⟩ tb_821 ⟨by decide, by decide⟩ tbp_10 tb_823 (m_recv hw) (fun U hU hW => mz_mk hro hw hU hW) (sig_code (C.2.2.2.2 _ tb_824)) (by show _ = some 2; decide +kernel) hl.1 rfl (Nat.le_of_ble_eq_true rfl) dX11_enters_168 ⟨Nat.le_of_ble_eq_true rfl, Nat.le_of_ble_eq_true rfl⟩) hS (fun _ h => h) (fun t H locs ht hvm hw _ _ hS => ?_)
      obtain ⟨r, dv, hro, hw⟩ := hw
      have hw := m_back hw ht hvm
      rw [show eN (pk P) i h (F, B, G, dk) = pE (pk P) i h (uF F i 5 (mn (F i 5 + 40) 5000), iB B 6, G, dk) by unfold eN; rw [if_neg (by rw [e0]; decide), if_neg (by rw [e0]; decide), if_pos (by rw [e0]; decide)]]
      exact ct_i C hr hlocks rfl (fun t ht hW => mz_mk hro hw ht hW) hS (Nat.le_of_ble_eq_true rfl) (Nat.le_of_ble_eq_true rfl) dX11_enters_171
  · refine lv_aload_n C.1 C.2.1 dX11_enters_0 rfl (lv_at hl 0 rfl) ?_
    refine mg_get C hw 2 (by decide) tb_710 rfl dX11_enters_1 ?_
    refine lv_iload_n C.1 C.2.1 dX11_enters_4 rfl (lv_at hl 1 rfl) ?_
    refine ma_kind C hw hi24 rfl dX11_enters_5 ?_
    rw [show F i 2 = nI 8 by rw [hF, e0]]
    refine lv_tableIn (tgt := 172) C.1 C.2.1 dX11_enters_6 (by decide) (by decide) rfl (by decide) ?_
    refine m_bump C hw tb_720 (lv_at hl 0 rfl) dX11_enters_172 dX11_enters_173 ?_
    refine lv_bipush (v := 8) C.1 C.2.1 dX11_enters_176 (by decide) ?_
    refine m_inc C hw hS (j := 8) (by decide) (by decide) dX11_enters_178 dX11_enters_179 dX11_enters_180 dX11_enters_181 dX11_enters_182 (fun H locs hw hS => ?_)
    refine lv_aload_n C.1 C.2.1 dX11_enters_183 rfl (lv_at hl 0 rfl) ?_
    refine lv_iload_n C.1 C.2.1 dX11_enters_184 rfl (lv_at hl 1 rfl) ?_
    refine lv_iload_n C.1 C.2.1 dX11_enters_185 rfl (lv_at hl 2 rfl) ?_
    refine ct_ret (ct_V0 C (c_X11_plainEnter l D A P q cI _ _ _ dk thr hO i hi h hn) Mz_bl (Or.inl rfl) tb_824 tb_3 ⟨Nat.le_of_ble_eq_true rfl, Nat.le_of_ble_eq_true rfl⟩ tb_821 ⟨by decide, by decide⟩ tbp_10 tb_823 (m_recv hw) (fun U hU hW => mz_mk hro hw hU hW) (sig_code (C.2.2.2.2 _ tb_824)) (by show _ = some 2; decide +kernel) hl.1 rfl (Nat.le_of_ble_eq_true rfl) dX11_enters_186 ⟨Nat.le_of_ble_eq_true rfl, Nat.le_of_ble_eq_true rfl⟩) hS (fun _ h => h) (fun t H locs ht hvm hw _ _ hS => ?_)
    obtain ⟨r, dv, hro, hw⟩ := hw
    have hw := m_back hw ht hvm
    refine lv_istore_n (lv' := [(3, .int (nI ((pE (pk P) i h (F, iB B 8, G, dk))).1)), (0, .ref (q 0)), (1, .int (nI i)), (2, .int (h))]) C.1 C.2.1 dX11_enters_189 rfl hl (by decide) rfl (fun ls hl => ?_)
    refine lv_iload_n C.1 C.2.1 dX11_enters_190 rfl (lv_at hl 0 rfl) ?_
    refine lv_iconst (v := 1) C.1 C.2.1 dX11_enters_191 (by decide) ?_
    refine lv_icmp_ne (tgt := 204) C.1 C.2.1 dX11_enters_192 (by decide) (fun h1 => ?_) (fun h1 => ?_)
    · refine lv_iload_n C.1 C.2.1 dX11_enters_204 rfl (lv_at hl 0 rfl) ?_
      rw [show eN (pk P) i h (F, B, G, dk) = eC (pk P) i h (pE (pk P) i h (F, iB B 8, G, dk)) by unfold eN; rw [if_neg (by rw [e0]; decide), if_neg (by rw [e0]; decide), if_neg (by rw [e0]; decide), if_pos e0]]
      rw [show eC (pk P) i h (pE (pk P) i h (F, iB B 8, G, dk)) = (pE (pk P) i h (F, iB B 8, G, dk)) from if_neg (fun z => h1 (by rw [z]; rfl))]
      exact ct_i C hr hlocks rfl (fun t ht hW => mz_mk hro hw ht hW) hS (Nat.le_of_ble_eq_true rfl) (Nat.le_of_ble_eq_true rfl) dX11_enters_205
    · have hp3 : (pE (pk P) i h (F, iB B 8, G, dk)).1 < 3 := pE_3
      have hp1 : (pE (pk P) i h (F, iB B 8, G, dk)).1 = 1 := (nI_eq (b := 1) (by omega) (by omega)).mp h1
      have hpe := pE_1 hp1
      rw [hpe] at hw hro
      refine lv_aload_n C.1 C.2.1 dX11_enters_195 rfl (lv_at hl 1 rfl) ?_
      refine lv_iload_n C.1 C.2.1 dX11_enters_196 rfl (lv_at hl 2 rfl) ?_
      refine lv_iload_n C.1 C.2.1 dX11_enters_197 rfl (lv_at hl 3 rfl) ?_
      refine ct_ret (ct_V0 C (c_X11_plainEnter l D A P q cI _ _ _ dk thr hO i hi h hn) Mz_bl (Or.inl rfl) tb_824 tb_3 ⟨Nat.le_of_ble_eq_true rfl, Nat.le_of_ble_eq_true rfl⟩ tb_821 ⟨by decide, by decide⟩ tbp_10 tb_823 (m_recv hw) (fun U hU hW => mz_mk hro hw hU hW) (sig_code (C.2.2.2.2 _ tb_824)) (by show _ = some 2; decide +kernel) hl.1 rfl (Nat.le_of_ble_eq_true rfl) dX11_enters_198 ⟨Nat.le_of_ble_eq_true rfl, Nat.le_of_ble_eq_true rfl⟩) hS (fun _ h => h) (fun t H locs ht hvm hw _ _ hS => ?_)
      obtain ⟨r, dv, hro, hw⟩ := hw
      have hw := m_back hw ht hvm
      refine lv_goto (tgt := 205) C.1 C.2.1 dX11_enters_201 (by decide) ?_
      rw [show eN (pk P) i h (F, B, G, dk) = eC (pk P) i h (pE (pk P) i h (F, iB B 8, G, dk)) by unfold eN; rw [if_neg (by rw [e0]; decide), if_neg (by rw [e0]; decide), if_neg (by rw [e0]; decide), if_pos e0]]
      rw [show eC (pk P) i h (pE (pk P) i h (F, iB B 8, G, dk)) = pE (pk P) i h (pE (pk P) i h (F, iB B 8, G, dk)).2 from if_pos hp1, hpe]
      exact ct_i C hr hlocks rfl (fun t ht hW => mz_mk hro hw ht hW) hS (Nat.le_of_ble_eq_true rfl) (Nat.le_of_ble_eq_true rfl) dX11_enters_205
