/-- the reference's row holds the deck's numbers -/
def RowOk (r : Nat → Int32) (dk : List Nat) : Prop := ∀ (k v : Nat), dk[k]? = some v → r k = nI v
def Mz (D : va_G) (A : Nat → Prop) (q : Nat → Nat) (cI n : Nat) (F : Nat → Nat → Int32) (B G : Nat → Int32) (dk : List Nat) (thr : Int32) : State → Prop := fun U => ∃ (r : Nat → Int32) (dv : Int32), RowOk r dk ∧ MwR D A q cI n F B G (nI dk.length) r thr dv U U.heap
theorem Mz_bl {D : va_G} {A : Nat → Prop} {q : Nat → Nat} {cI n : Nat} {F : Nat → Nat → Int32} {B G : Nat → Int32} {dk : List Nat} {thr : Int32} : Bl (Mz D A q cI n F B G dk thr) := fun U g mk a ⟨r, dv, h1, h2⟩ => ⟨r, dv, h1, h2.moved (u := U.calling g mk a) (Vm.Alike.refl U.vm)⟩
theorem wBk_comm (k : Nat) (B : Nat → Int32) (a : Nat) : wBk k (iB B a) = iB (wBk k B) a := by
  unfold wBk
  by_cases h5 : k = 5
  · rw [if_pos h5, if_pos h5, iB_comm B a 5, iB_comm (iB B 5) a 4, iB_comm (iB (iB B 5) 4) a 0]
  · rw [if_neg h5, if_neg h5]
    by_cases h7 : k = 7
    · rw [if_pos h7, if_pos h7, iB_comm B a 7, iB_comm (iB B 7) a 4, iB_comm (iB (iB B 7) 4) a 0]
    · rw [if_neg h7, if_neg h7]
      by_cases h4 : k = 4 ∨ k = 6
      · rw [if_pos h4, if_pos h4, iB_comm B a 4, iB_comm (iB B 4) a 0]
      · rw [if_neg h4, if_neg h4, iB_comm B a 0]
theorem sumB_comm (K : Nat → Nat) : ∀ (dk : List Nat) (B : Nat → Int32) (a : Nat), sumB K dk (iB B a) = iB (sumB K dk B) a
  | [], _, _ => rfl
  | v :: t, B, a => by
    show sumB K t (wBk (K v) (iB B a)) = iB (sumB K t (wBk (K v) B)) a
    rw [wBk_comm, sumB_comm K t]
theorem fPB_comm (K : Nat → Nat) (dk : List Nat) (i : Nat) (B : Nat → Int32) (a : Nat) : fPB K dk i (iB B a) = iB (fPB K dk i B) a := by
  unfold fPB
  rw [iB_comm B a 0, sumB_comm, wBk_comm]
theorem opn_0 {G : Nat → Int32} (h : opn G = 0) : G 4 ≠ 0 := fun q => by
  unfold opn at h
  rw [if_pos q] at h
  exact absurd h (by decide)
theorem opn_1 {G : Nat → Int32} (h : ¬ opn G = 0) : G 4 = 0 := by
  unfold opn at h
  by_cases q : G 4 = 0
  · exact q
  · rw [if_neg q] at h; exact absurd rfl h
theorem bus_w {k : Nat} (hk : k < 9) : (!(outs (nI k) 6 7)) = isBus k := by
  rcases (show k = 0 ∨ k = 1 ∨ k = 2 ∨ k = 3 ∨ k = 4 ∨ k = 5 ∨ k = 6 ∨ k = 7 ∨ k = 8 by omega) with rfl | rfl | rfl | rfl | rfl | rfl | rfl | rfl | rfl <;> decide
set_option maxHeartbeats 400000 in
set_option maxRecDepth 100000 in
/-- FIT by CART -/
theorem c_X11_isPlainFit (l : Launch) (D : va_G) (A : Nat → Prop) (P : SwP) (q : Nat → Nat) (cI : Nat) (F : Nat → Nat → Int32) (B G : Nat → Int32) (dk : List Nat) (r : Nat → Int32) (thr dv : Int32) (hO : Ok P F dk) (hro : RowOk r dk) (i : Nat) (hi : i < pn P)  : Ct l yX11_isPlainFit (.code yX11_isPlainFit cX11_isPlainFit 4 (some .boolean)) ({ frames := 1, cells := 0, slots := 0, locals := 24 }) A [.ref (q 0), .int (nI i)] (Mp D A q cI (pn P) F B G (nI dk.length) r thr dv) (.inl (some (.int (b2i (fP (pk P) F G dk i))))) (Mp D A q cI (pn P) F (fPB (pk P) dk i B) G (nI dk.length) r thr dv) := by
  refine ct_mk (by decide) (Nat.le_of_ble_eq_true rfl) (fun p e s m below meth c ls C hr hlocks hnm htab hP hl => ?_)
  have hw := hP
  have hS : va_S A s.heap s.heap [] := va_S.rf
  have hl : lv_has ls 4 [(0, .ref (q 0)), (1, .int (nI i))] := hl
  have hL : dk.length ≤ 24 := hO.len
  have hi24 : i < 24 := Nat.lt_of_lt_of_le hi hO.1
  have hki : pk P i < 9 := hO.2.1 i hi
  have loop : ∀ (k j : Nat), j + k = dk.length → ∀ (x y : Int32) (B1 : Nat → Int32), x = nI j → sumW (pk P) F (dk.drop j) y = sumW (pk P) F dk 0 → sumB (pk P) (dk.drop j) B1 = sumB (pk P) dk (iB B 0) → ∀ (H : Heap) (locs : List Loc), MwR D A q cI (pn P) F B1 G (nI dk.length) r thr dv s H → va_S A s.heap H locs → ∀ ls : Array Slot, lv_has ls 4 [(3, .int x), (2, .int y), (0, .ref (q 0)), (1, .int (nI i))] → W p l e ({ frames := 1, cells := 0, slots := 0, locals := 24 }) s m ([.ref (q 0), .int (nI i)] : List Value).toArray below meth c H locs 0 0 (CtQ below s ([.ref (q 0), .int (nI i)] : List Value).toArray ({ frames := 1, cells := 0, slots := 0, locals := 24 }) A (.inl (some (.int (b2i (fP (pk P) F G dk i))))) (Mp D A q cI (pn P) F (fPB (pk P) dk i B) G (nI dk.length) r thr dv)) (F0 m 14 ls []) := by
    intro k
    induction k with
    | zero =>
      intro j hj x y B1 hx hy hB H locs hw hS ls hl
      have hj : j = dk.length := by omega
      rw [hj, List.drop_length] at hy hB
      have hy : y = sumW (pk P) F dk 0 := hy
      have hB : B1 = sumB (pk P) dk (iB B 0) := hB
      subst hy
      subst hB
      refine lv_iload_n C.1 C.2.1 dX11_isPlainFit_14 rfl (lv_at hl 0 rfl) ?_
      refine lv_aload_n C.1 C.2.1 dX11_isPlainFit_15 rfl (lv_at hl 2 rfl) ?_
      refine mg_get C hw 11 (by decide) tb_719 rfl dX11_isPlainFit_16 ?_
      refine lv_icmp_ge (tgt := 41) C.1 C.2.1 dX11_isPlainFit_19 (by decide) (fun h1 => ?_) (fun h1 => ?_)
      · refine lv_iload_n C.1 C.2.1 dX11_isPlainFit_41 rfl (lv_at hl 1 rfl) ?_
        refine lv_aload_n C.1 C.2.1 dX11_isPlainFit_42 rfl (lv_at hl 2 rfl) ?_
        refine lv_iload_n C.1 C.2.1 dX11_isPlainFit_43 rfl (lv_at hl 3 rfl) ?_
        refine ct_ret (ct_V0 C (c_X11_weightOf l D A q _ _ _ _ _ _ _ _ _ i (pk P i) hi24 hki (hO.2.2.1 i hi)) Mp_bl (Or.inl rfl) tb_785 tb_3 ⟨Nat.le_of_ble_eq_true rfl, Nat.le_of_ble_eq_true rfl⟩ tb_782 ⟨by decide, by decide⟩ tbp_4 tb_784 (m_recv hw) (fun U hU hW => m_post hw hU hW) (sig_code (C.2.2.2.2 _ tb_785)) (by show _ = some 1; decide +kernel) hl.1 rfl (Nat.le_of_ble_eq_true rfl) dX11_isPlainFit_44 ⟨Nat.le_of_ble_eq_true rfl, Nat.le_of_ble_eq_true rfl⟩) hS (fun _ h => h) (fun t H locs ht hvm hw _ _ hS => ?_)
        have hw := m_back hw ht hvm
        refine lv_iadd C.1 C.2.1 dX11_isPlainFit_47 ?_
        refine lv_istore_n (lv' := [(2, .int ((sumW (pk P) F dk 0) + (wR (pk P i) F i))), (3, .int (x)), (0, .ref (q 0)), (1, .int (nI i))]) C.1 C.2.1 dX11_isPlainFit_48 rfl hl (by decide) rfl (fun ls hl => ?_)
        refine lv_aload_n C.1 C.2.1 dX11_isPlainFit_49 rfl (lv_at hl 2 rfl) ?_
        refine mg_get C hw 14 (by decide) tb_722 rfl dX11_isPlainFit_50 ?_
        refine lv_if_ne (tgt := 68) C.1 C.2.1 dX11_isPlainFit_53 (by decide) (fun h2 => ?_) (fun h2 => ?_)
        · refine lv_iconst (v := 0) C.1 C.2.1 dX11_isPlainFit_68 (by decide) ?_
          exact ct_z C hr hlocks (Or.inl rfl) (by rw [show fP (pk P) F G dk i = false from decide_eq_false (fun z => z.1 (opn_1 h2))]; rfl) (fun t ht hW => m_post hw ht hW) hS (Nat.le_of_ble_eq_true rfl) (Nat.le_of_ble_eq_true rfl) dX11_isPlainFit_69
        · refine lv_iload_n C.1 C.2.1 dX11_isPlainFit_56 rfl (lv_at hl 0 rfl) ?_
          refine lv_aload_n C.1 C.2.1 dX11_isPlainFit_57 rfl (lv_at hl 2 rfl) ?_
          refine mg_get C hw 13 (by decide) tb_721 rfl dX11_isPlainFit_58 ?_
          refine lv_icmp_gt (tgt := 68) C.1 C.2.1 dX11_isPlainFit_61 (by decide) (fun h3 => ?_) (fun h3 => ?_)
          · refine lv_iconst (v := 0) C.1 C.2.1 dX11_isPlainFit_68 (by decide) ?_
            exact ct_z C hr hlocks (Or.inl rfl) (by rw [show fP (pk P) F G dk i = false from decide_eq_false (fun z => Int32.not_lt.mpr z.2 h3)]; rfl) (fun t ht hW => m_post hw ht hW) hS (Nat.le_of_ble_eq_true rfl) (Nat.le_of_ble_eq_true rfl) dX11_isPlainFit_69
          · refine lv_iconst (v := 1) C.1 C.2.1 dX11_isPlainFit_64 (by decide) ?_
            refine lv_goto (tgt := 69) C.1 C.2.1 dX11_isPlainFit_65 (by decide) ?_
            exact ct_z C hr hlocks (Or.inr rfl) (by rw [show fP (pk P) F G dk i = true from decide_eq_true ⟨opn_0 h2, Int32.not_lt.mp h3⟩]; rfl) (fun t ht hW => m_post hw ht hW) hS (Nat.le_of_ble_eq_true rfl) (Nat.le_of_ble_eq_true rfl) dX11_isPlainFit_69
      · exact absurd (by rw [hx, hj]; exact Int32.le_refl _) h1
    | succ k ih =>
      intro j hj x y B1 hx hy hB H locs hw hS ls hl
      have hjl : j < dk.length := by omega
      obtain ⟨v, hdj⟩ : ∃ v, dk[j]? = some v := ⟨_, List.getElem?_eq_getElem hjl⟩
      obtain ⟨hv, hkv⟩ := hO.v hdj
      have hv24 : v < 24 := Nat.lt_of_lt_of_le hv hO.1
      refine lv_iload_n C.1 C.2.1 dX11_isPlainFit_14 rfl (lv_at hl 0 rfl) ?_
      refine lv_aload_n C.1 C.2.1 dX11_isPlainFit_15 rfl (lv_at hl 2 rfl) ?_
      refine mg_get C hw 11 (by decide) tb_719 rfl dX11_isPlainFit_16 ?_
      refine lv_icmp_ge (tgt := 41) C.1 C.2.1 dX11_isPlainFit_19 (by decide) (fun h1 => ?_) (fun h1 => ?_)
      · exact absurd (by rw [hx] at h1; exact h1) (nI_ge (a := j) (b := dk.length) hjl (by omega))
      · refine lv_iload_n C.1 C.2.1 dX11_isPlainFit_22 rfl (lv_at hl 1 rfl) ?_
        refine lv_aload_n C.1 C.2.1 dX11_isPlainFit_23 rfl (lv_at hl 2 rfl) ?_
        refine lv_aload_n C.1 C.2.1 dX11_isPlainFit_24 rfl (lv_at hl 2 rfl) ?_
        refine mg_get C hw 10 (by decide) tb_718 rfl dX11_isPlainFit_25 ?_
        refine lv_iload_n C.1 C.2.1 dX11_isPlainFit_28 rfl (lv_at hl 0 rfl) ?_
        refine ma_row C hw (show j < 24 by omega) hx dX11_isPlainFit_29 ?_
        rw [hro j v hdj]
        refine ct_ret (ct_V0 C (c_X11_weightOf l D A q _ _ _ _ _ _ _ _ _ v (pk P v) hv24 hkv (hO.2.2.1 v hv)) Mp_bl (Or.inl rfl) tb_785 tb_3 ⟨Nat.le_of_ble_eq_true rfl, Nat.le_of_ble_eq_true rfl⟩ tb_782 ⟨by decide, by decide⟩ tbp_4 tb_784 (m_recv hw) (fun U hU hW => m_post hw hU hW) (sig_code (C.2.2.2.2 _ tb_785)) (by show _ = some 1; decide +kernel) hl.1 rfl (Nat.le_of_ble_eq_true rfl) dX11_isPlainFit_30 ⟨Nat.le_of_ble_eq_true rfl, Nat.le_of_ble_eq_true rfl⟩) hS (fun _ h => h) (fun t H locs ht hvm hw _ _ hS => ?_)
        have hw := m_back hw ht hvm
        refine lv_iadd C.1 C.2.1 dX11_isPlainFit_33 ?_
        refine lv_istore_n (lv' := [(2, .int ((y) + (wR (pk P v) F v))), (3, .int (x)), (0, .ref (q 0)), (1, .int (nI i))]) C.1 C.2.1 dX11_isPlainFit_34 rfl hl (by decide) rfl (fun ls hl => ?_)
        obtain ⟨x1, ex1⟩ : ∃ z : Int32, z = x + 1 := ⟨_, rfl⟩
        refine lv_iinc (v := x1) (lv' := [(3, .int (x1)), (2, .int ((y) + (wR (pk P v) F v))), (0, .ref (q 0)), (1, .int (nI i))]) C.1 C.2.1 dX11_isPlainFit_35 hl (k := 1) rfl (by rw [ex1]; rfl) (by decide) rfl (fun ls hl => ?_)
        refine lv_goto (tgt := 14) C.1 C.2.1 dX11_isPlainFit_38 (by decide) ?_
        exact ih (j + 1) (by omega) x1 (y + wR (pk P v) F v) (wBk (pk P v) B1) (by rw [ex1, hx]; exact nI_1 j) (by rw [drop_some hdj] at hy; exact hy) (by rw [drop_some hdj] at hB; exact hB) H locs hw hS ls (lv_sub hl [0, 1, 2, 3] rfl)
  refine m_bump C hw tb_720 (lv_at hl 0 rfl) dX11_isPlainFit_0 dX11_isPlainFit_1 ?_
  refine lv_iconst (v := 0) C.1 C.2.1 dX11_isPlainFit_4 (by decide) ?_
  refine m_inc C hw hS (j := 0) (by decide) (by decide) dX11_isPlainFit_5 dX11_isPlainFit_6 dX11_isPlainFit_7 dX11_isPlainFit_8 dX11_isPlainFit_9 (fun H locs hw hS => ?_)
  refine lv_iconst (v := 0) C.1 C.2.1 dX11_isPlainFit_10 (by decide) ?_
  refine lv_istore_n (lv' := [(2, .int (0)), (0, .ref (q 0)), (1, .int (nI i))]) C.1 C.2.1 dX11_isPlainFit_11 rfl hl (by decide) rfl (fun ls hl => ?_)
  refine lv_iconst (v := 0) C.1 C.2.1 dX11_isPlainFit_12 (by decide) ?_
  refine lv_istore_n (lv' := [(3, .int (0)), (2, .int (0)), (0, .ref (q 0)), (1, .int (nI i))]) C.1 C.2.1 dX11_isPlainFit_13 rfl hl (by decide) rfl (fun ls hl => ?_)
  exact loop dk.length 0 (by omega) 0 0 (iB B 0) nI_0.symm rfl rfl _ _ hw hS ls hl
set_option maxHeartbeats 400000 in
set_option maxRecDepth 100000 in
/-- FIT -/
theorem c_X11_isFit (l : Launch) (D : va_G) (A : Nat → Prop) (P : SwP) (q : Nat → Nat) (cI : Nat) (F : Nat → Nat → Int32) (B G : Nat → Int32) (dk : List Nat) (r : Nat → Int32) (thr dv : Int32) (hO : Ok P F dk) (hro : RowOk r dk) (i : Nat) (hi : i < pn P)  : Ct l yX11_isFit (.code yX11_isFit cX11_isFit 5 (some .boolean)) ({ frames := 2, cells := 0, slots := 0, locals := 47 }) A [.ref (q 0), .int (nI i)] (Mp D A q cI (pn P) F B G (nI dk.length) r thr dv) (.inl (some (.int (b2i (fR (pk P) F G dk i))))) (Mp D A q cI (pn P) F (fB (pk P) dk i B) G (nI dk.length) r thr dv) := by
  refine ct_mk (by decide) (Nat.le_of_ble_eq_true rfl) (fun p e s m below meth c ls C hr hlocks hnm htab hP hl => ?_)
  have hw := hP
  have hS : va_S A s.heap s.heap [] := va_S.rf
  have hl : lv_has ls 5 [(0, .ref (q 0)), (1, .int (nI i))] := hl
  have hL : dk.length ≤ 24 := hO.len
  have hi24 : i < 24 := Nat.lt_of_lt_of_le hi hO.1
  have hki : pk P i < 9 := hO.2.1 i hi
  have hF := hO.2.2.1 i hi
  have loop : pk P i = 7 → ∀ (k j : Nat), j + k = dk.length → ∀ (x y : Int32), x = nI j → y = b2i (fP (pk P) F G dk i && !((dk.take j).any (fun v => isBus (pk P v)))) → ∀ (H : Heap) (locs : List Loc), MwR D A q cI (pn P) F (iB (fPB (pk P) dk i B) 7) G (nI dk.length) r thr dv s H → va_S A s.heap H locs → ∀ ls : Array Slot, lv_has ls 5 [(4, .int x), (3, .int y), (0, .ref (q 0)), (1, .int (nI i))] → W p l e ({ frames := 2, cells := 0, slots := 0, locals := 47 }) s m ([.ref (q 0), .int (nI i)] : List Value).toArray below meth c H locs 0 0 (CtQ below s ([.ref (q 0), .int (nI i)] : List Value).toArray ({ frames := 2, cells := 0, slots := 0, locals := 47 }) A (.inl (some (.int (b2i (fR (pk P) F G dk i))))) (Mp D A q cI (pn P) F (fB (pk P) dk i B) G (nI dk.length) r thr dv)) (F0 m 98 ls []) := by
    intro e0 k
    induction k with
    | zero =>
      intro j hj x y hx hy H locs hw hS ls hl
      have hj : j = dk.length := by omega
      rw [hj, List.take_length] at hy
      refine lv_iload C.1 C.2.1 dX11_isFit_98 (lv_at hl 0 rfl) ?_
      refine lv_aload_n C.1 C.2.1 dX11_isFit_100 rfl (lv_at hl 2 rfl) ?_
      refine mg_get C hw 11 (by decide) tb_719 rfl dX11_isFit_101 ?_
      refine lv_icmp_ge (tgt := 145) C.1 C.2.1 dX11_isFit_104 (by decide) (fun h1 => ?_) (fun h1 => ?_)
      · refine lv_iload_n C.1 C.2.1 dX11_isFit_145 rfl (lv_at hl 1 rfl) ?_
        rw [show fR (pk P) F G dk i = (fP (pk P) F G dk i && !(dk.any (fun v => isBus (pk P v)))) by unfold fR; rw [if_neg (by rw [e0]; decide), if_pos e0], show fB (pk P) dk i B = fPB (pk P) dk i (iB B 7) by unfold fB; rw [if_neg (by rw [e0]; decide), if_pos e0], fPB_comm]
        subst hy
        exact ct_z C hr hlocks (b2i_z _) rfl (fun t ht hW => m_post hw ht hW) hS (Nat.le_of_ble_eq_true rfl) (Nat.le_of_ble_eq_true rfl) dX11_isFit_146
      · exact absurd (by rw [hx, hj]; exact Int32.le_refl _) h1
    | succ k ih =>
      intro j hj x y hx hy H locs hw hS ls hl
      have hjl : j < dk.length := by omega
      obtain ⟨v, hdj⟩ : ∃ v, dk[j]? = some v := ⟨_, List.getElem?_eq_getElem hjl⟩
      obtain ⟨hv, hkv⟩ := hO.v hdj
      have hv24 : v < 24 := Nat.lt_of_lt_of_le hv hO.1
      have hany : (dk.take (j + 1)).any (fun v => isBus (pk P v)) = ((dk.take j).any (fun v => isBus (pk P v)) || isBus (pk P v)) := by rw [take_some hdj, List.any_append]; simp
      refine lv_iload C.1 C.2.1 dX11_isFit_98 (lv_at hl 0 rfl) ?_
      refine lv_aload_n C.1 C.2.1 dX11_isFit_100 rfl (lv_at hl 2 rfl) ?_
      refine mg_get C hw 11 (by decide) tb_719 rfl dX11_isFit_101 ?_
      refine lv_icmp_ge (tgt := 145) C.1 C.2.1 dX11_isFit_104 (by decide) (fun h1 => ?_) (fun h1 => ?_)
      · exact absurd (by rw [hx] at h1; exact h1) (nI_ge (a := j) (b := dk.length) hjl (by omega))
      · refine lv_iload_n C.1 C.2.1 dX11_isFit_107 rfl (lv_at hl 1 rfl) ?_
        refine lv_if_eq (tgt := 137) C.1 C.2.1 dX11_isFit_108 (by decide) (fun h2 => ?_) (fun h2 => ?_)
        · refine lv_iconst (v := 0) C.1 C.2.1 dX11_isFit_137 (by decide) ?_
          refine lv_istore_n (lv' := [(3, .int (0)), (4, .int (x)), (0, .ref (q 0)), (1, .int (nI i))]) C.1 C.2.1 dX11_isFit_138 rfl hl (by decide) rfl (fun ls hl => ?_)
          obtain ⟨x1, ex1⟩ : ∃ z : Int32, z = x + 1 := ⟨_, rfl⟩
          refine lv_iinc (v := x1) (lv' := [(4, .int (x1)), (3, .int (0)), (0, .ref (q 0)), (1, .int (nI i))]) C.1 C.2.1 dX11_isFit_139 hl (k := 1) rfl (by rw [ex1]; rfl) (by decide) rfl (fun ls hl => ?_)
          refine lv_goto (tgt := 98) C.1 C.2.1 dX11_isFit_142 (by decide) ?_
          exact ih (j + 1) (by omega) x1 0 (by rw [ex1, hx]; exact nI_1 j) (by rw [hy] at h2; rw [hany, Bool.not_or, ← Bool.and_assoc, b2i_0 h2]; rfl) H locs hw hS ls (lv_sub hl [0, 1, 2, 3] rfl)
        · refine lv_aload_n C.1 C.2.1 dX11_isFit_111 rfl (lv_at hl 2 rfl) ?_
          refine mg_get C hw 2 (by decide) tb_710 rfl dX11_isFit_112 ?_
          refine lv_aload_n C.1 C.2.1 dX11_isFit_115 rfl (lv_at hl 2 rfl) ?_
          refine mg_get C hw 10 (by decide) tb_718 rfl dX11_isFit_116 ?_
          refine lv_iload C.1 C.2.1 dX11_isFit_119 (lv_at hl 0 rfl) ?_
          refine ma_row C hw (show j < 24 by omega) hx dX11_isFit_121 ?_
          rw [hro j v hdj]
          refine ma_kind C hw hv24 rfl dX11_isFit_122 ?_
          rw [hO.2.2.1 v hv]
          refine lv_bipush (v := 6) C.1 C.2.1 dX11_isFit_123 (by decide) ?_
          refine lv_bipush (v := 7) C.1 C.2.1 dX11_isFit_125 (by decide) ?_
          refine ct_ret (ct_S C (c_X11_within l (nI (pk P v)) (6) (7)) Tr_bl (Or.inl rfl) tb_773 tb_3 ⟨Nat.le_of_ble_eq_true rfl, Nat.le_of_ble_eq_true rfl⟩ tb_771 ⟨by decide, by decide⟩ tb_772 (fun _ _ _ => trivial) (by show _ = some 3; decide +kernel) hl.1 rfl (Nat.le_of_ble_eq_true rfl) dX11_isFit_127 ⟨Nat.le_of_ble_eq_true rfl, Nat.le_of_ble_eq_true rfl⟩) hS (fun _ h => False.elim h) (fun t H locs ht hvm _ _ hk hS => ?_)
          have hw := m_kept hw hk
          refine lv_if_ne (tgt := 137) C.1 C.2.1 dX11_isFit_130 (by decide) (fun h3 => ?_) (fun h3 => ?_)
          · refine lv_iconst (v := 0) C.1 C.2.1 dX11_isFit_137 (by decide) ?_
            refine lv_istore_n (lv' := [(3, .int (0)), (4, .int (x)), (0, .ref (q 0)), (1, .int (nI i))]) C.1 C.2.1 dX11_isFit_138 rfl hl (by decide) rfl (fun ls hl => ?_)
            obtain ⟨x1, ex1⟩ : ∃ z : Int32, z = x + 1 := ⟨_, rfl⟩
            refine lv_iinc (v := x1) (lv' := [(4, .int (x1)), (3, .int (0)), (0, .ref (q 0)), (1, .int (nI i))]) C.1 C.2.1 dX11_isFit_139 hl (k := 1) rfl (by rw [ex1]; rfl) (by decide) rfl (fun ls hl => ?_)
            refine lv_goto (tgt := 98) C.1 C.2.1 dX11_isFit_142 (by decide) ?_
            exact ih (j + 1) (by omega) x1 0 (by rw [ex1, hx]; exact nI_1 j) (by rw [hany, show isBus (pk P v) = true from (bus_w hkv).symm.trans (b2i_1 h3), Bool.or_true, Bool.not_true, Bool.and_false]; rfl) H locs hw hS ls (lv_sub hl [0, 1, 2, 3] rfl)
          · refine lv_iconst (v := 1) C.1 C.2.1 dX11_isFit_133 (by decide) ?_
            refine lv_goto (tgt := 138) C.1 C.2.1 dX11_isFit_134 (by decide) ?_
            refine lv_istore_n (lv' := [(3, .int (1)), (4, .int (x)), (0, .ref (q 0)), (1, .int (nI i))]) C.1 C.2.1 dX11_isFit_138 rfl hl (by decide) rfl (fun ls hl => ?_)
            obtain ⟨x1, ex1⟩ : ∃ z : Int32, z = x + 1 := ⟨_, rfl⟩
            refine lv_iinc (v := x1) (lv' := [(4, .int (x1)), (3, .int (1)), (0, .ref (q 0)), (1, .int (nI i))]) C.1 C.2.1 dX11_isFit_139 hl (k := 1) rfl (by rw [ex1]; rfl) (by decide) rfl (fun ls hl => ?_)
            refine lv_goto (tgt := 98) C.1 C.2.1 dX11_isFit_142 (by decide) ?_
            exact ih (j + 1) (by omega) x1 1 (by rw [ex1, hx]; exact nI_1 j) (by rw [hy] at h2; rw [hany, show isBus (pk P v) = false from (bus_w hkv).symm.trans (b2i_0 h3), Bool.or_false, b2i_1 h2]; rfl) H locs hw hS ls (lv_sub hl [0, 1, 2, 3] rfl)
  rcases (show pk P i = 0 ∨ pk P i = 1 ∨ pk P i = 2 ∨ pk P i = 3 ∨ pk P i = 4 ∨ pk P i = 5 ∨ pk P i = 6 ∨ pk P i = 7 ∨ pk P i = 8 by omega) with e0 | e0 | e0 | e0 | e0 | e0 | e0 | e0 | e0
  · refine lv_aload_n C.1 C.2.1 dX11_isFit_0 rfl (lv_at hl 0 rfl) ?_
    refine mg_get C hw 2 (by decide) tb_710 rfl dX11_isFit_1 ?_
    refine lv_iload_n C.1 C.2.1 dX11_isFit_4 rfl (lv_at hl 1 rfl) ?_
    refine ma_kind C hw hi24 rfl dX11_isFit_5 ?_
    rw [show F i 2 = nI 0 by rw [hF, e0]]
    refine lv_istore_n (lv' := [(2, .int (nI 0)), (0, .ref (q 0)), (1, .int (nI i))]) C.1 C.2.1 dX11_isFit_6 rfl hl (by decide) rfl (fun ls hl => ?_)
    refine lv_iload_n C.1 C.2.1 dX11_isFit_7 rfl (lv_at hl 0 rfl) ?_
    refine lv_bipush (v := 8) C.1 C.2.1 dX11_isFit_8 (by decide) ?_
    refine lv_icmp_ne (tgt := 37) C.1 C.2.1 dX11_isFit_10 (by decide) (fun _ => ?_) (fun h9 => absurd h9 (by decide))
    refine lv_aload_n C.1 C.2.1 dX11_isFit_37 rfl (lv_at hl 1 rfl) ?_
    refine lv_iload_n C.1 C.2.1 dX11_isFit_38 rfl (lv_at hl 2 rfl) ?_
    refine ct_ret (ct_V0 C (c_X11_isPlainFit l D A P q cI F _ G dk r thr dv hO hro i hi) Mp_bl (Or.inl rfl) tb_812 tb_3 ⟨Nat.le_of_ble_eq_true rfl, Nat.le_of_ble_eq_true rfl⟩ tb_809 ⟨by decide, by decide⟩ tbp_8 tb_811 (m_recv hw) (fun U hU hW => m_post hw hU hW) (sig_code (C.2.2.2.2 _ tb_812)) (by show _ = some 1; decide +kernel) hl.1 rfl (Nat.le_of_ble_eq_true rfl) dX11_isFit_39 ⟨Nat.le_of_ble_eq_true rfl, Nat.le_of_ble_eq_true rfl⟩) hS (fun _ h => h) (fun t H locs ht hvm hw _ _ hS => ?_)
    have hw := m_back hw ht hvm
    refine lv_istore_n (lv' := [(3, .int (b2i (fP (pk P) F G dk i))), (2, .int (nI 0)), (0, .ref (q 0)), (1, .int (nI i))]) C.1 C.2.1 dX11_isFit_42 rfl hl (by decide) rfl (fun ls hl => ?_)
    refine lv_iload_n C.1 C.2.1 dX11_isFit_43 rfl (lv_at hl 1 rfl) ?_
    refine lv_iconst (v := 5) C.1 C.2.1 dX11_isFit_44 (by decide) ?_
    refine lv_icmp_ne (tgt := 78) C.1 C.2.1 dX11_isFit_45 (by decide) (fun _ => ?_) (fun h9 => absurd h9 (by decide))
    refine lv_iload_n C.1 C.2.1 dX11_isFit_78 rfl (lv_at hl 1 rfl) ?_
    refine lv_bipush (v := 7) C.1 C.2.1 dX11_isFit_79 (by decide) ?_
    refine lv_icmp_ne (tgt := 145) C.1 C.2.1 dX11_isFit_81 (by decide) (fun _ => ?_) (fun h9 => absurd h9 (by decide))
    refine lv_iload_n C.1 C.2.1 dX11_isFit_145 rfl (lv_at hl 0 rfl) ?_
    rw [show fR (pk P) F G dk i = (fP (pk P) F G dk i) by unfold fR; rw [if_neg (by rw [e0]; decide), if_neg (by rw [e0]; decide), if_neg (by rw [e0]; decide)], show fB (pk P) dk i B = fPB (pk P) dk i B by unfold fB; rw [if_neg (by rw [e0]; decide), if_neg (by rw [e0]; decide), if_neg (by rw [e0]; decide)]]
    exact ct_z C hr hlocks (b2i_z _) rfl (fun t ht hW => m_post hw ht hW) hS (Nat.le_of_ble_eq_true rfl) (Nat.le_of_ble_eq_true rfl) dX11_isFit_146
  · refine lv_aload_n C.1 C.2.1 dX11_isFit_0 rfl (lv_at hl 0 rfl) ?_
    refine mg_get C hw 2 (by decide) tb_710 rfl dX11_isFit_1 ?_
    refine lv_iload_n C.1 C.2.1 dX11_isFit_4 rfl (lv_at hl 1 rfl) ?_
    refine ma_kind C hw hi24 rfl dX11_isFit_5 ?_
    rw [show F i 2 = nI 1 by rw [hF, e0]]
    refine lv_istore_n (lv' := [(2, .int (nI 1)), (0, .ref (q 0)), (1, .int (nI i))]) C.1 C.2.1 dX11_isFit_6 rfl hl (by decide) rfl (fun ls hl => ?_)
    refine lv_iload_n C.1 C.2.1 dX11_isFit_7 rfl (lv_at hl 0 rfl) ?_
    refine lv_bipush (v := 8) C.1 C.2.1 dX11_isFit_8 (by decide) ?_
    refine lv_icmp_ne (tgt := 37) C.1 C.2.1 dX11_isFit_10 (by decide) (fun _ => ?_) (fun h9 => absurd h9 (by decide))
    refine lv_aload_n C.1 C.2.1 dX11_isFit_37 rfl (lv_at hl 1 rfl) ?_
    refine lv_iload_n C.1 C.2.1 dX11_isFit_38 rfl (lv_at hl 2 rfl) ?_
    refine ct_ret (ct_V0 C (c_X11_isPlainFit l D A P q cI F _ G dk r thr dv hO hro i hi) Mp_bl (Or.inl rfl) tb_812 tb_3 ⟨Nat.le_of_ble_eq_true rfl, Nat.le_of_ble_eq_true rfl⟩ tb_809 ⟨by decide, by decide⟩ tbp_8 tb_811 (m_recv hw) (fun U hU hW => m_post hw hU hW) (sig_code (C.2.2.2.2 _ tb_812)) (by show _ = some 1; decide +kernel) hl.1 rfl (Nat.le_of_ble_eq_true rfl) dX11_isFit_39 ⟨Nat.le_of_ble_eq_true rfl, Nat.le_of_ble_eq_true rfl⟩) hS (fun _ h => h) (fun t H locs ht hvm hw _ _ hS => ?_)
    have hw := m_back hw ht hvm
    refine lv_istore_n (lv' := [(3, .int (b2i (fP (pk P) F G dk i))), (2, .int (nI 1)), (0, .ref (q 0)), (1, .int (nI i))]) C.1 C.2.1 dX11_isFit_42 rfl hl (by decide) rfl (fun ls hl => ?_)
    refine lv_iload_n C.1 C.2.1 dX11_isFit_43 rfl (lv_at hl 1 rfl) ?_
    refine lv_iconst (v := 5) C.1 C.2.1 dX11_isFit_44 (by decide) ?_
    refine lv_icmp_ne (tgt := 78) C.1 C.2.1 dX11_isFit_45 (by decide) (fun _ => ?_) (fun h9 => absurd h9 (by decide))
    refine lv_iload_n C.1 C.2.1 dX11_isFit_78 rfl (lv_at hl 1 rfl) ?_
    refine lv_bipush (v := 7) C.1 C.2.1 dX11_isFit_79 (by decide) ?_
    refine lv_icmp_ne (tgt := 145) C.1 C.2.1 dX11_isFit_81 (by decide) (fun _ => ?_) (fun h9 => absurd h9 (by decide))
    refine lv_iload_n C.1 C.2.1 dX11_isFit_145 rfl (lv_at hl 0 rfl) ?_
    rw [show fR (pk P) F G dk i = (fP (pk P) F G dk i) by unfold fR; rw [if_neg (by rw [e0]; decide), if_neg (by rw [e0]; decide), if_neg (by rw [e0]; decide)], show fB (pk P) dk i B = fPB (pk P) dk i B by unfold fB; rw [if_neg (by rw [e0]; decide), if_neg (by rw [e0]; decide), if_neg (by rw [e0]; decide)]]
    exact ct_z C hr hlocks (b2i_z _) rfl (fun t ht hW => m_post hw ht hW) hS (Nat.le_of_ble_eq_true rfl) (Nat.le_of_ble_eq_true rfl) dX11_isFit_146
  · refine lv_aload_n C.1 C.2.1 dX11_isFit_0 rfl (lv_at hl 0 rfl) ?_
    refine mg_get C hw 2 (by decide) tb_710 rfl dX11_isFit_1 ?_
    refine lv_iload_n C.1 C.2.1 dX11_isFit_4 rfl (lv_at hl 1 rfl) ?_
    refine ma_kind C hw hi24 rfl dX11_isFit_5 ?_
    rw [show F i 2 = nI 2 by rw [hF, e0]]
    refine lv_istore_n (lv' := [(2, .int (nI 2)), (0, .ref (q 0)), (1, .int (nI i))]) C.1 C.2.1 dX11_isFit_6 rfl hl (by decide) rfl (fun ls hl => ?_)
    refine lv_iload_n C.1 C.2.1 dX11_isFit_7 rfl (lv_at hl 0 rfl) ?_
    refine lv_bipush (v := 8) C.1 C.2.1 dX11_isFit_8 (by decide) ?_
    refine lv_icmp_ne (tgt := 37) C.1 C.2.1 dX11_isFit_10 (by decide) (fun _ => ?_) (fun h9 => absurd h9 (by decide))
    refine lv_aload_n C.1 C.2.1 dX11_isFit_37 rfl (lv_at hl 1 rfl) ?_
    refine lv_iload_n C.1 C.2.1 dX11_isFit_38 rfl (lv_at hl 2 rfl) ?_
    refine ct_ret (ct_V0 C (c_X11_isPlainFit l D A P q cI F _ G dk r thr dv hO hro i hi) Mp_bl (Or.inl rfl) tb_812 tb_3 ⟨Nat.le_of_ble_eq_true rfl, Nat.le_of_ble_eq_true rfl⟩ tb_809 ⟨by decide, by decide⟩ tbp_8 tb_811 (m_recv hw) (fun U hU hW => m_post hw hU hW) (sig_code (C.2.2.2.2 _ tb_812)) (by show _ = some 1; decide +kernel) hl.1 rfl (Nat.le_of_ble_eq_true rfl) dX11_isFit_39 ⟨Nat.le_of_ble_eq_true rfl, Nat.le_of_ble_eq_true rfl⟩) hS (fun _ h => h) (fun t H locs ht hvm hw _ _ hS => ?_)
    have hw := m_back hw ht hvm
    refine lv_istore_n (lv' := [(3, .int (b2i (fP (pk P) F G dk i))), (2, .int (nI 2)), (0, .ref (q 0)), (1, .int (nI i))]) C.1 C.2.1 dX11_isFit_42 rfl hl (by decide) rfl (fun ls hl => ?_)
    refine lv_iload_n C.1 C.2.1 dX11_isFit_43 rfl (lv_at hl 1 rfl) ?_
    refine lv_iconst (v := 5) C.1 C.2.1 dX11_isFit_44 (by decide) ?_
    refine lv_icmp_ne (tgt := 78) C.1 C.2.1 dX11_isFit_45 (by decide) (fun _ => ?_) (fun h9 => absurd h9 (by decide))
    refine lv_iload_n C.1 C.2.1 dX11_isFit_78 rfl (lv_at hl 1 rfl) ?_
    refine lv_bipush (v := 7) C.1 C.2.1 dX11_isFit_79 (by decide) ?_
    refine lv_icmp_ne (tgt := 145) C.1 C.2.1 dX11_isFit_81 (by decide) (fun _ => ?_) (fun h9 => absurd h9 (by decide))
    refine lv_iload_n C.1 C.2.1 dX11_isFit_145 rfl (lv_at hl 0 rfl) ?_
    rw [show fR (pk P) F G dk i = (fP (pk P) F G dk i) by unfold fR; rw [if_neg (by rw [e0]; decide), if_neg (by rw [e0]; decide), if_neg (by rw [e0]; decide)], show fB (pk P) dk i B = fPB (pk P) dk i B by unfold fB; rw [if_neg (by rw [e0]; decide), if_neg (by rw [e0]; decide), if_neg (by rw [e0]; decide)]]
    exact ct_z C hr hlocks (b2i_z _) rfl (fun t ht hW => m_post hw ht hW) hS (Nat.le_of_ble_eq_true rfl) (Nat.le_of_ble_eq_true rfl) dX11_isFit_146
  · refine lv_aload_n C.1 C.2.1 dX11_isFit_0 rfl (lv_at hl 0 rfl) ?_
    refine mg_get C hw 2 (by decide) tb_710 rfl dX11_isFit_1 ?_
    refine lv_iload_n C.1 C.2.1 dX11_isFit_4 rfl (lv_at hl 1 rfl) ?_
    refine ma_kind C hw hi24 rfl dX11_isFit_5 ?_
    rw [show F i 2 = nI 3 by rw [hF, e0]]
    refine lv_istore_n (lv' := [(2, .int (nI 3)), (0, .ref (q 0)), (1, .int (nI i))]) C.1 C.2.1 dX11_isFit_6 rfl hl (by decide) rfl (fun ls hl => ?_)
    refine lv_iload_n C.1 C.2.1 dX11_isFit_7 rfl (lv_at hl 0 rfl) ?_
    refine lv_bipush (v := 8) C.1 C.2.1 dX11_isFit_8 (by decide) ?_
    refine lv_icmp_ne (tgt := 37) C.1 C.2.1 dX11_isFit_10 (by decide) (fun _ => ?_) (fun h9 => absurd h9 (by decide))
    refine lv_aload_n C.1 C.2.1 dX11_isFit_37 rfl (lv_at hl 1 rfl) ?_
    refine lv_iload_n C.1 C.2.1 dX11_isFit_38 rfl (lv_at hl 2 rfl) ?_
    refine ct_ret (ct_V0 C (c_X11_isPlainFit l D A P q cI F _ G dk r thr dv hO hro i hi) Mp_bl (Or.inl rfl) tb_812 tb_3 ⟨Nat.le_of_ble_eq_true rfl, Nat.le_of_ble_eq_true rfl⟩ tb_809 ⟨by decide, by decide⟩ tbp_8 tb_811 (m_recv hw) (fun U hU hW => m_post hw hU hW) (sig_code (C.2.2.2.2 _ tb_812)) (by show _ = some 1; decide +kernel) hl.1 rfl (Nat.le_of_ble_eq_true rfl) dX11_isFit_39 ⟨Nat.le_of_ble_eq_true rfl, Nat.le_of_ble_eq_true rfl⟩) hS (fun _ h => h) (fun t H locs ht hvm hw _ _ hS => ?_)
    have hw := m_back hw ht hvm
    refine lv_istore_n (lv' := [(3, .int (b2i (fP (pk P) F G dk i))), (2, .int (nI 3)), (0, .ref (q 0)), (1, .int (nI i))]) C.1 C.2.1 dX11_isFit_42 rfl hl (by decide) rfl (fun ls hl => ?_)
    refine lv_iload_n C.1 C.2.1 dX11_isFit_43 rfl (lv_at hl 1 rfl) ?_
    refine lv_iconst (v := 5) C.1 C.2.1 dX11_isFit_44 (by decide) ?_
    refine lv_icmp_ne (tgt := 78) C.1 C.2.1 dX11_isFit_45 (by decide) (fun _ => ?_) (fun h9 => absurd h9 (by decide))
    refine lv_iload_n C.1 C.2.1 dX11_isFit_78 rfl (lv_at hl 1 rfl) ?_
    refine lv_bipush (v := 7) C.1 C.2.1 dX11_isFit_79 (by decide) ?_
    refine lv_icmp_ne (tgt := 145) C.1 C.2.1 dX11_isFit_81 (by decide) (fun _ => ?_) (fun h9 => absurd h9 (by decide))
    refine lv_iload_n C.1 C.2.1 dX11_isFit_145 rfl (lv_at hl 0 rfl) ?_
    rw [show fR (pk P) F G dk i = (fP (pk P) F G dk i) by unfold fR; rw [if_neg (by rw [e0]; decide), if_neg (by rw [e0]; decide), if_neg (by rw [e0]; decide)], show fB (pk P) dk i B = fPB (pk P) dk i B by unfold fB; rw [if_neg (by rw [e0]; decide), if_neg (by rw [e0]; decide), if_neg (by rw [e0]; decide)]]
    exact ct_z C hr hlocks (b2i_z _) rfl (fun t ht hW => m_post hw ht hW) hS (Nat.le_of_ble_eq_true rfl) (Nat.le_of_ble_eq_true rfl) dX11_isFit_146
  · refine lv_aload_n C.1 C.2.1 dX11_isFit_0 rfl (lv_at hl 0 rfl) ?_
    refine mg_get C hw 2 (by decide) tb_710 rfl dX11_isFit_1 ?_
    refine lv_iload_n C.1 C.2.1 dX11_isFit_4 rfl (lv_at hl 1 rfl) ?_
    refine ma_kind C hw hi24 rfl dX11_isFit_5 ?_
    rw [show F i 2 = nI 4 by rw [hF, e0]]
    refine lv_istore_n (lv' := [(2, .int (nI 4)), (0, .ref (q 0)), (1, .int (nI i))]) C.1 C.2.1 dX11_isFit_6 rfl hl (by decide) rfl (fun ls hl => ?_)
    refine lv_iload_n C.1 C.2.1 dX11_isFit_7 rfl (lv_at hl 0 rfl) ?_
    refine lv_bipush (v := 8) C.1 C.2.1 dX11_isFit_8 (by decide) ?_
    refine lv_icmp_ne (tgt := 37) C.1 C.2.1 dX11_isFit_10 (by decide) (fun _ => ?_) (fun h9 => absurd h9 (by decide))
    refine lv_aload_n C.1 C.2.1 dX11_isFit_37 rfl (lv_at hl 1 rfl) ?_
    refine lv_iload_n C.1 C.2.1 dX11_isFit_38 rfl (lv_at hl 2 rfl) ?_
    refine ct_ret (ct_V0 C (c_X11_isPlainFit l D A P q cI F _ G dk r thr dv hO hro i hi) Mp_bl (Or.inl rfl) tb_812 tb_3 ⟨Nat.le_of_ble_eq_true rfl, Nat.le_of_ble_eq_true rfl⟩ tb_809 ⟨by decide, by decide⟩ tbp_8 tb_811 (m_recv hw) (fun U hU hW => m_post hw hU hW) (sig_code (C.2.2.2.2 _ tb_812)) (by show _ = some 1; decide +kernel) hl.1 rfl (Nat.le_of_ble_eq_true rfl) dX11_isFit_39 ⟨Nat.le_of_ble_eq_true rfl, Nat.le_of_ble_eq_true rfl⟩) hS (fun _ h => h) (fun t H locs ht hvm hw _ _ hS => ?_)
    have hw := m_back hw ht hvm
    refine lv_istore_n (lv' := [(3, .int (b2i (fP (pk P) F G dk i))), (2, .int (nI 4)), (0, .ref (q 0)), (1, .int (nI i))]) C.1 C.2.1 dX11_isFit_42 rfl hl (by decide) rfl (fun ls hl => ?_)
    refine lv_iload_n C.1 C.2.1 dX11_isFit_43 rfl (lv_at hl 1 rfl) ?_
    refine lv_iconst (v := 5) C.1 C.2.1 dX11_isFit_44 (by decide) ?_
    refine lv_icmp_ne (tgt := 78) C.1 C.2.1 dX11_isFit_45 (by decide) (fun _ => ?_) (fun h9 => absurd h9 (by decide))
    refine lv_iload_n C.1 C.2.1 dX11_isFit_78 rfl (lv_at hl 1 rfl) ?_
    refine lv_bipush (v := 7) C.1 C.2.1 dX11_isFit_79 (by decide) ?_
    refine lv_icmp_ne (tgt := 145) C.1 C.2.1 dX11_isFit_81 (by decide) (fun _ => ?_) (fun h9 => absurd h9 (by decide))
    refine lv_iload_n C.1 C.2.1 dX11_isFit_145 rfl (lv_at hl 0 rfl) ?_
    rw [show fR (pk P) F G dk i = (fP (pk P) F G dk i) by unfold fR; rw [if_neg (by rw [e0]; decide), if_neg (by rw [e0]; decide), if_neg (by rw [e0]; decide)], show fB (pk P) dk i B = fPB (pk P) dk i B by unfold fB; rw [if_neg (by rw [e0]; decide), if_neg (by rw [e0]; decide), if_neg (by rw [e0]; decide)]]
    exact ct_z C hr hlocks (b2i_z _) rfl (fun t ht hW => m_post hw ht hW) hS (Nat.le_of_ble_eq_true rfl) (Nat.le_of_ble_eq_true rfl) dX11_isFit_146
  · refine lv_aload_n C.1 C.2.1 dX11_isFit_0 rfl (lv_at hl 0 rfl) ?_
    refine mg_get C hw 2 (by decide) tb_710 rfl dX11_isFit_1 ?_
    refine lv_iload_n C.1 C.2.1 dX11_isFit_4 rfl (lv_at hl 1 rfl) ?_
    refine ma_kind C hw hi24 rfl dX11_isFit_5 ?_
    rw [show F i 2 = nI 5 by rw [hF, e0]]
    refine lv_istore_n (lv' := [(2, .int (nI 5)), (0, .ref (q 0)), (1, .int (nI i))]) C.1 C.2.1 dX11_isFit_6 rfl hl (by decide) rfl (fun ls hl => ?_)
    refine lv_iload_n C.1 C.2.1 dX11_isFit_7 rfl (lv_at hl 0 rfl) ?_
    refine lv_bipush (v := 8) C.1 C.2.1 dX11_isFit_8 (by decide) ?_
    refine lv_icmp_ne (tgt := 37) C.1 C.2.1 dX11_isFit_10 (by decide) (fun _ => ?_) (fun h9 => absurd h9 (by decide))
    refine lv_aload_n C.1 C.2.1 dX11_isFit_37 rfl (lv_at hl 1 rfl) ?_
    refine lv_iload_n C.1 C.2.1 dX11_isFit_38 rfl (lv_at hl 2 rfl) ?_
    refine ct_ret (ct_V0 C (c_X11_isPlainFit l D A P q cI F _ G dk r thr dv hO hro i hi) Mp_bl (Or.inl rfl) tb_812 tb_3 ⟨Nat.le_of_ble_eq_true rfl, Nat.le_of_ble_eq_true rfl⟩ tb_809 ⟨by decide, by decide⟩ tbp_8 tb_811 (m_recv hw) (fun U hU hW => m_post hw hU hW) (sig_code (C.2.2.2.2 _ tb_812)) (by show _ = some 1; decide +kernel) hl.1 rfl (Nat.le_of_ble_eq_true rfl) dX11_isFit_39 ⟨Nat.le_of_ble_eq_true rfl, Nat.le_of_ble_eq_true rfl⟩) hS (fun _ h => h) (fun t H locs ht hvm hw _ _ hS => ?_)
    have hw := m_back hw ht hvm
    refine lv_istore_n (lv' := [(3, .int (b2i (fP (pk P) F G dk i))), (2, .int (nI 5)), (0, .ref (q 0)), (1, .int (nI i))]) C.1 C.2.1 dX11_isFit_42 rfl hl (by decide) rfl (fun ls hl => ?_)
    refine lv_iload_n C.1 C.2.1 dX11_isFit_43 rfl (lv_at hl 1 rfl) ?_
    refine lv_iconst (v := 5) C.1 C.2.1 dX11_isFit_44 (by decide) ?_
    refine lv_icmp_ne (tgt := 78) C.1 C.2.1 dX11_isFit_45 (by decide) (fun h9 => absurd (by decide) h9) (fun _ => ?_)
    refine m_bump C hw tb_720 (lv_at hl 2 rfl) dX11_isFit_48 dX11_isFit_49 ?_
    refine lv_iconst (v := 5) C.1 C.2.1 dX11_isFit_52 (by decide) ?_
    refine m_inc C hw hS (j := 5) (by decide) (by decide) dX11_isFit_53 dX11_isFit_54 dX11_isFit_55 dX11_isFit_56 dX11_isFit_57 (fun H locs hw hS => ?_)
    refine lv_iload_n C.1 C.2.1 dX11_isFit_58 rfl (lv_at hl 0 rfl) ?_
    refine lv_if_eq (tgt := 73) C.1 C.2.1 dX11_isFit_59 (by decide) (fun h1 => ?_) (fun h1 => ?_)
    · refine lv_iconst (v := 0) C.1 C.2.1 dX11_isFit_73 (by decide) ?_
      refine lv_istore_n (lv' := [(3, .int (0)), (2, .int (nI 5)), (0, .ref (q 0)), (1, .int (nI i))]) C.1 C.2.1 dX11_isFit_74 rfl hl (by decide) rfl (fun ls hl => ?_)
      refine lv_goto (tgt := 145) C.1 C.2.1 dX11_isFit_75 (by decide) ?_
      refine lv_iload_n C.1 C.2.1 dX11_isFit_145 rfl (lv_at hl 0 rfl) ?_
      rw [show fR (pk P) F G dk i = (fP (pk P) F G dk i && dk.isEmpty) by unfold fR; rw [if_pos e0], show fB (pk P) dk i B = fPB (pk P) dk i (iB B 5) by unfold fB; rw [if_pos e0]]
      rw [fPB_comm]
      exact ct_z C hr hlocks (Or.inl rfl) (by rw [b2i_0 h1]; rfl) (fun t ht hW => m_post hw ht hW) hS (Nat.le_of_ble_eq_true rfl) (Nat.le_of_ble_eq_true rfl) dX11_isFit_146
    · refine lv_aload_n C.1 C.2.1 dX11_isFit_62 rfl (lv_at hl 2 rfl) ?_
      refine mg_get C hw 11 (by decide) tb_719 rfl dX11_isFit_63 ?_
      refine lv_if_ne (tgt := 73) C.1 C.2.1 dX11_isFit_66 (by decide) (fun h2 => ?_) (fun h2 => ?_)
      · refine lv_iconst (v := 0) C.1 C.2.1 dX11_isFit_73 (by decide) ?_
        refine lv_istore_n (lv' := [(3, .int (0)), (2, .int (nI 5)), (0, .ref (q 0)), (1, .int (nI i))]) C.1 C.2.1 dX11_isFit_74 rfl hl (by decide) rfl (fun ls hl => ?_)
        refine lv_goto (tgt := 145) C.1 C.2.1 dX11_isFit_75 (by decide) ?_
        refine lv_iload_n C.1 C.2.1 dX11_isFit_145 rfl (lv_at hl 0 rfl) ?_
        rw [show fR (pk P) F G dk i = (fP (pk P) F G dk i && dk.isEmpty) by unfold fR; rw [if_pos e0], show fB (pk P) dk i B = fPB (pk P) dk i (iB B 5) by unfold fB; rw [if_pos e0]]
        rw [fPB_comm]
        have hne : dk.isEmpty = false := by cases dk with | nil => exact absurd rfl h2 | cons a t => rfl
        exact ct_z C hr hlocks (Or.inl rfl) (by rw [hne, Bool.and_false]; rfl) (fun t ht hW => m_post hw ht hW) hS (Nat.le_of_ble_eq_true rfl) (Nat.le_of_ble_eq_true rfl) dX11_isFit_146
      · refine lv_iconst (v := 1) C.1 C.2.1 dX11_isFit_69 (by decide) ?_
        refine lv_goto (tgt := 74) C.1 C.2.1 dX11_isFit_70 (by decide) ?_
        refine lv_istore_n (lv' := [(3, .int (1)), (2, .int (nI 5)), (0, .ref (q 0)), (1, .int (nI i))]) C.1 C.2.1 dX11_isFit_74 rfl hl (by decide) rfl (fun ls hl => ?_)
        refine lv_goto (tgt := 145) C.1 C.2.1 dX11_isFit_75 (by decide) ?_
        refine lv_iload_n C.1 C.2.1 dX11_isFit_145 rfl (lv_at hl 0 rfl) ?_
        rw [show fR (pk P) F G dk i = (fP (pk P) F G dk i && dk.isEmpty) by unfold fR; rw [if_pos e0], show fB (pk P) dk i B = fPB (pk P) dk i (iB B 5) by unfold fB; rw [if_pos e0]]
        rw [fPB_comm]
        exact ct_z C hr hlocks (Or.inr rfl) (by rw [b2i_1 h1, show dk.isEmpty = true by rw [nI_len0 h2 hL]; rfl]; rfl) (fun t ht hW => m_post hw ht hW) hS (Nat.le_of_ble_eq_true rfl) (Nat.le_of_ble_eq_true rfl) dX11_isFit_146
  · refine lv_aload_n C.1 C.2.1 dX11_isFit_0 rfl (lv_at hl 0 rfl) ?_
    refine mg_get C hw 2 (by decide) tb_710 rfl dX11_isFit_1 ?_
    refine lv_iload_n C.1 C.2.1 dX11_isFit_4 rfl (lv_at hl 1 rfl) ?_
    refine ma_kind C hw hi24 rfl dX11_isFit_5 ?_
    rw [show F i 2 = nI 6 by rw [hF, e0]]
    refine lv_istore_n (lv' := [(2, .int (nI 6)), (0, .ref (q 0)), (1, .int (nI i))]) C.1 C.2.1 dX11_isFit_6 rfl hl (by decide) rfl (fun ls hl => ?_)
    refine lv_iload_n C.1 C.2.1 dX11_isFit_7 rfl (lv_at hl 0 rfl) ?_
    refine lv_bipush (v := 8) C.1 C.2.1 dX11_isFit_8 (by decide) ?_
    refine lv_icmp_ne (tgt := 37) C.1 C.2.1 dX11_isFit_10 (by decide) (fun _ => ?_) (fun h9 => absurd h9 (by decide))
    refine lv_aload_n C.1 C.2.1 dX11_isFit_37 rfl (lv_at hl 1 rfl) ?_
    refine lv_iload_n C.1 C.2.1 dX11_isFit_38 rfl (lv_at hl 2 rfl) ?_
    refine ct_ret (ct_V0 C (c_X11_isPlainFit l D A P q cI F _ G dk r thr dv hO hro i hi) Mp_bl (Or.inl rfl) tb_812 tb_3 ⟨Nat.le_of_ble_eq_true rfl, Nat.le_of_ble_eq_true rfl⟩ tb_809 ⟨by decide, by decide⟩ tbp_8 tb_811 (m_recv hw) (fun U hU hW => m_post hw hU hW) (sig_code (C.2.2.2.2 _ tb_812)) (by show _ = some 1; decide +kernel) hl.1 rfl (Nat.le_of_ble_eq_true rfl) dX11_isFit_39 ⟨Nat.le_of_ble_eq_true rfl, Nat.le_of_ble_eq_true rfl⟩) hS (fun _ h => h) (fun t H locs ht hvm hw _ _ hS => ?_)
    have hw := m_back hw ht hvm
    refine lv_istore_n (lv' := [(3, .int (b2i (fP (pk P) F G dk i))), (2, .int (nI 6)), (0, .ref (q 0)), (1, .int (nI i))]) C.1 C.2.1 dX11_isFit_42 rfl hl (by decide) rfl (fun ls hl => ?_)
    refine lv_iload_n C.1 C.2.1 dX11_isFit_43 rfl (lv_at hl 1 rfl) ?_
    refine lv_iconst (v := 5) C.1 C.2.1 dX11_isFit_44 (by decide) ?_
    refine lv_icmp_ne (tgt := 78) C.1 C.2.1 dX11_isFit_45 (by decide) (fun _ => ?_) (fun h9 => absurd h9 (by decide))
    refine lv_iload_n C.1 C.2.1 dX11_isFit_78 rfl (lv_at hl 1 rfl) ?_
    refine lv_bipush (v := 7) C.1 C.2.1 dX11_isFit_79 (by decide) ?_
    refine lv_icmp_ne (tgt := 145) C.1 C.2.1 dX11_isFit_81 (by decide) (fun _ => ?_) (fun h9 => absurd h9 (by decide))
    refine lv_iload_n C.1 C.2.1 dX11_isFit_145 rfl (lv_at hl 0 rfl) ?_
    rw [show fR (pk P) F G dk i = (fP (pk P) F G dk i) by unfold fR; rw [if_neg (by rw [e0]; decide), if_neg (by rw [e0]; decide), if_neg (by rw [e0]; decide)], show fB (pk P) dk i B = fPB (pk P) dk i B by unfold fB; rw [if_neg (by rw [e0]; decide), if_neg (by rw [e0]; decide), if_neg (by rw [e0]; decide)]]
    exact ct_z C hr hlocks (b2i_z _) rfl (fun t ht hW => m_post hw ht hW) hS (Nat.le_of_ble_eq_true rfl) (Nat.le_of_ble_eq_true rfl) dX11_isFit_146
  · refine lv_aload_n C.1 C.2.1 dX11_isFit_0 rfl (lv_at hl 0 rfl) ?_
    refine mg_get C hw 2 (by decide) tb_710 rfl dX11_isFit_1 ?_
    refine lv_iload_n C.1 C.2.1 dX11_isFit_4 rfl (lv_at hl 1 rfl) ?_
    refine ma_kind C hw hi24 rfl dX11_isFit_5 ?_
    rw [show F i 2 = nI 7 by rw [hF, e0]]
    refine lv_istore_n (lv' := [(2, .int (nI 7)), (0, .ref (q 0)), (1, .int (nI i))]) C.1 C.2.1 dX11_isFit_6 rfl hl (by decide) rfl (fun ls hl => ?_)
    refine lv_iload_n C.1 C.2.1 dX11_isFit_7 rfl (lv_at hl 0 rfl) ?_
    refine lv_bipush (v := 8) C.1 C.2.1 dX11_isFit_8 (by decide) ?_
    refine lv_icmp_ne (tgt := 37) C.1 C.2.1 dX11_isFit_10 (by decide) (fun _ => ?_) (fun h9 => absurd h9 (by decide))
    refine lv_aload_n C.1 C.2.1 dX11_isFit_37 rfl (lv_at hl 1 rfl) ?_
    refine lv_iload_n C.1 C.2.1 dX11_isFit_38 rfl (lv_at hl 2 rfl) ?_
    refine ct_ret (ct_V0 C (c_X11_isPlainFit l D A P q cI F _ G dk r thr dv hO hro i hi) Mp_bl (Or.inl rfl) tb_812 tb_3 ⟨Nat.le_of_ble_eq_true rfl, Nat.le_of_ble_eq_true rfl⟩ tb_809 ⟨by decide, by decide⟩ tbp_8 tb_811 (m_recv hw) (fun U hU hW => m_post hw hU hW) (sig_code (C.2.2.2.2 _ tb_812)) (by show _ = some 1; decide +kernel) hl.1 rfl (Nat.le_of_ble_eq_true rfl) dX11_isFit_39 ⟨Nat.le_of_ble_eq_true rfl, Nat.le_of_ble_eq_true rfl⟩) hS (fun _ h => h) (fun t H locs ht hvm hw _ _ hS => ?_)
    have hw := m_back hw ht hvm
    refine lv_istore_n (lv' := [(3, .int (b2i (fP (pk P) F G dk i))), (2, .int (nI 7)), (0, .ref (q 0)), (1, .int (nI i))]) C.1 C.2.1 dX11_isFit_42 rfl hl (by decide) rfl (fun ls hl => ?_)
    refine lv_iload_n C.1 C.2.1 dX11_isFit_43 rfl (lv_at hl 1 rfl) ?_
    refine lv_iconst (v := 5) C.1 C.2.1 dX11_isFit_44 (by decide) ?_
    refine lv_icmp_ne (tgt := 78) C.1 C.2.1 dX11_isFit_45 (by decide) (fun _ => ?_) (fun h9 => absurd h9 (by decide))
    refine lv_iload_n C.1 C.2.1 dX11_isFit_78 rfl (lv_at hl 1 rfl) ?_
    refine lv_bipush (v := 7) C.1 C.2.1 dX11_isFit_79 (by decide) ?_
    refine lv_icmp_ne (tgt := 145) C.1 C.2.1 dX11_isFit_81 (by decide) (fun h9 => absurd (by decide) h9) (fun _ => ?_)
    refine m_bump C hw tb_720 (lv_at hl 2 rfl) dX11_isFit_84 dX11_isFit_85 ?_
    refine lv_bipush (v := 7) C.1 C.2.1 dX11_isFit_88 (by decide) ?_
    refine m_inc C hw hS (j := 7) (by decide) (by decide) dX11_isFit_90 dX11_isFit_91 dX11_isFit_92 dX11_isFit_93 dX11_isFit_94 (fun H locs hw hS => ?_)
    refine lv_iconst (v := 0) C.1 C.2.1 dX11_isFit_95 (by decide) ?_
    refine lv_istore (lv' := [(4, .int (0)), (3, .int (b2i (fP (pk P) F G dk i))), (2, .int (nI 7)), (0, .ref (q 0)), (1, .int (nI i))]) C.1 C.2.1 dX11_isFit_96 hl (by decide) rfl (fun ls hl => ?_)
    exact loop e0 dk.length 0 (by omega) 0 _ nI_0.symm (by simp) _ _ hw hS ls (lv_sub hl [0, 1, 3, 4] rfl)
  · refine lv_aload_n C.1 C.2.1 dX11_isFit_0 rfl (lv_at hl 0 rfl) ?_
    refine mg_get C hw 2 (by decide) tb_710 rfl dX11_isFit_1 ?_
    refine lv_iload_n C.1 C.2.1 dX11_isFit_4 rfl (lv_at hl 1 rfl) ?_
    refine ma_kind C hw hi24 rfl dX11_isFit_5 ?_
    rw [show F i 2 = nI 8 by rw [hF, e0]]
    refine lv_istore_n (lv' := [(2, .int (nI 8)), (0, .ref (q 0)), (1, .int (nI i))]) C.1 C.2.1 dX11_isFit_6 rfl hl (by decide) rfl (fun ls hl => ?_)
    refine lv_iload_n C.1 C.2.1 dX11_isFit_7 rfl (lv_at hl 0 rfl) ?_
    refine lv_bipush (v := 8) C.1 C.2.1 dX11_isFit_8 (by decide) ?_
    refine lv_icmp_ne (tgt := 37) C.1 C.2.1 dX11_isFit_10 (by decide) (fun h9 => absurd (by decide) h9) (fun _ => ?_)
    refine m_bump C hw tb_720 (lv_at hl 1 rfl) dX11_isFit_13 dX11_isFit_14 ?_
    refine lv_bipush (v := 8) C.1 C.2.1 dX11_isFit_17 (by decide) ?_
    refine m_inc C hw hS (j := 8) (by decide) (by decide) dX11_isFit_19 dX11_isFit_20 dX11_isFit_21 dX11_isFit_22 dX11_isFit_23 (fun H locs hw hS => ?_)
    refine lv_aload_n C.1 C.2.1 dX11_isFit_24 rfl (lv_at hl 1 rfl) ?_
    refine mg_get C hw 14 (by decide) tb_722 rfl dX11_isFit_25 ?_
    refine lv_if_ne (tgt := 35) C.1 C.2.1 dX11_isFit_28 (by decide) (fun h1 => ?_) (fun h1 => ?_)
    · refine lv_iconst (v := 0) C.1 C.2.1 dX11_isFit_35 (by decide) ?_
      rw [show fR (pk P) F G dk i = (decide (G 4 ≠ 0)) by unfold fR; rw [if_neg (by rw [e0]; decide), if_neg (by rw [e0]; decide), if_pos e0], show fB (pk P) dk i B = iB B 8 by unfold fB; rw [if_neg (by rw [e0]; decide), if_neg (by rw [e0]; decide), if_pos e0]]
      exact ct_z C hr hlocks (Or.inl rfl) (by rw [show decide (G 4 ≠ 0) = false from decide_eq_false (fun z => z (opn_1 h1))]; rfl) (fun t ht hW => m_post hw ht hW) hS (Nat.le_of_ble_eq_true rfl) (Nat.le_of_ble_eq_true rfl) dX11_isFit_36
    · refine lv_iconst (v := 1) C.1 C.2.1 dX11_isFit_31 (by decide) ?_
      refine lv_goto (tgt := 36) C.1 C.2.1 dX11_isFit_32 (by decide) ?_
      rw [show fR (pk P) F G dk i = (decide (G 4 ≠ 0)) by unfold fR; rw [if_neg (by rw [e0]; decide), if_neg (by rw [e0]; decide), if_pos e0], show fB (pk P) dk i B = iB B 8 by unfold fB; rw [if_neg (by rw [e0]; decide), if_neg (by rw [e0]; decide), if_pos e0]]
      exact ct_z C hr hlocks (Or.inr rfl) (by rw [show decide (G 4 ≠ 0) = true from decide_eq_true (opn_0 h1)]; rfl) (fun t ht hW => m_post hw ht hW) hS (Nat.le_of_ble_eq_true rfl) (Nat.le_of_ble_eq_true rfl) dX11_isFit_36
