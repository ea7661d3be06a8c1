/-- the row's cells while leaves moves them up, at place j; a: where the vehicle was -/
def shf (r : Nat → Int32) (a j : Nat) : Nat → Int32 := fun y => if a ≤ y ∧ y < j then r (y + 1) else r y
theorem shf_0 {r : Nat → Int32} {a : Nat} : shf r a a = r := by
  funext y
  unfold shf
  rw [if_neg (by omega)]
theorem shf_s {r : Nat → Int32} {a j : Nat} (h : a ≤ j) : upd (shf r a j) j (shf r a j (j + 1)) = shf r a (j + 1) := by
  funext y
  unfold upd shf
  rw [if_neg (show ¬ (a ≤ j + 1 ∧ j + 1 < j) by omega)]
  by_cases h1 : y = j
  · subst h1
    rw [if_pos rfl, if_pos ⟨h, by omega⟩]
  · rw [if_neg h1]
    by_cases h2 : a ≤ y ∧ y < j
    · rw [if_pos h2, if_pos ⟨h2.1, by omega⟩]
    · rw [if_neg h2, if_neg (fun z => h2 ⟨z.1, by omega⟩)]
theorem er_idx {dk : List Nat} {i a : Nat} (hn : dk.Nodup) (ha : dk[a]? = some i) : dk.erase i = dk.eraseIdx a := by
  obtain ⟨hl, he⟩ := List.getElem?_eq_some_iff.mp ha
  have h1 : dk.idxOf i = a := by rw [← he]; exact hn.idxOf_getElem a hl
  exact List.erase_eq_eraseIdx_of_idxOf h1
theorem RowOk.er {r : Nat → Int32} {dk : List Nat} {i a : Nat} (h : RowOk r dk) (hn : dk.Nodup) (ha : dk[a]? = some i) : RowOk (shf r a (dk.length - 1)) (dk.erase i) := fun k v hv => by
  rw [er_idx hn ha, List.getElem?_eraseIdx] at hv
  unfold shf
  by_cases q : k < a
  · rw [if_pos q] at hv
    rw [if_neg (by omega)]
    exact h k v hv
  · rw [if_neg q] at hv
    have h2 := (List.getElem?_eq_some_iff.mp hv).1
    rw [if_pos ⟨by omega, by omega⟩]
    exact h (k + 1) v hv
theorem at_uniq {dk : List Nat} {i a j : Nat} (hn : dk.Nodup) (ha : dk[a]? = some i) (hj : dk[j]? = some i) : j = a := by
  obtain ⟨hl, he⟩ := List.getElem?_eq_some_iff.mp ha
  obtain ⟨hl2, he2⟩ := List.getElem?_eq_some_iff.mp hj
  have h1 : dk.idxOf i = a := by rw [← he]; exact hn.idxOf_getElem a hl
  have h2 : dk.idxOf i = j := by rw [← he2]; exact hn.idxOf_getElem j hl2
  omega
set_option maxHeartbeats 400000 in
set_option maxRecDepth 100000 in
/-- LEAVE -/
theorem c_X11_leaves (l : Launch) (D : va_G) (A : Nat → Prop) (P : SwP) (q : Nat → Nat) (cI : Nat) (F : Nat → Nat → Int32) (B G : Nat → Int32) (dk : List Nat) (thr : Int32) (hO : Ok P F dk) (i : Nat) (hi : i < pn P) (hm : i ∈ dk) : Ct l yX11_leaves (.code yX11_leaves cX11_leaves 4 none) ({ frames := 1, cells := 0, slots := 0, locals := 22 }) A [.ref (q 0), .int (nI i)] (Mz D A q cI (pn P) F B G dk thr) (.inl none) (Mz D A q cI (pn P) (lR (pk P) i (F, B, G, dk)).1 (lR (pk P) i (F, B, G, dk)).2.1 (lR (pk P) i (F, B, G, dk)).2.2.1 (lR (pk P) i (F, B, G, dk)).2.2.2 thr) := by
  refine ct_mk (by decide) (Nat.le_of_ble_eq_true rfl) (fun p e s m below meth c ls C hr hlocks hnm htab hP hl => ?_)
  obtain ⟨r, dv, hro, hw⟩ := hP
  have hS : va_S A s.heap s.heap [] := va_S.rf
  have hl : lv_has ls 4 [(0, .ref (q 0)), (1, .int (nI i))] := hl
  have hL : dk.length ≤ 24 := hO.len
  have hi24 : i < 24 := Nat.lt_of_lt_of_le hi hO.1
  have hki : pk P i < 9 := hO.2.1 i hi
  have hF := hO.2.2.1 i hi
  have hnd : dk.Nodup := hO.2.2.2.2
  obtain ⟨a, ha⟩ := List.getElem?_of_mem hm
  have hal : a < dk.length := (List.getElem?_eq_some_iff.mp ha).1
  have hle : (dk.erase i).length = dk.length - 1 := List.length_erase_of_mem hm
  have tail : ∀ (H : Heap) (locs : List Loc), MwR D A q cI (pn P) F (iB B 0) G (nI (dk.length - 1)) (shf r a (dk.length - 1)) thr dv s H → va_S A s.heap H locs → ∀ ls : Array Slot, lv_has ls 4 [(0, .ref (q 0)), (1, .int (nI i))] → W p l e ({ frames := 1, cells := 0, slots := 0, locals := 22 }) s m ([.ref (q 0), .int (nI i)] : List Value).toArray below meth c H locs 0 0 (CtQ below s ([.ref (q 0), .int (nI i)] : List Value).toArray ({ frames := 1, cells := 0, slots := 0, locals := 22 }) A (.inl none) (Mz D A q cI (pn P) (lR (pk P) i (F, B, G, dk)).1 (lR (pk P) i (F, B, G, dk)).2.1 (lR (pk P) i (F, B, G, dk)).2.2.1 (lR (pk P) i (F, B, G, dk)).2.2.2 thr)) (F0 m 68 ls []) := by
    intro H locs hw hS ls hl
    have hro2 := hro.er hnd ha
    rw [← hle] at hw hro2
    rcases (show pk P i = 0 ∨ pk P i = 1 ∨ pk P i = 2 ∨ pk P i = 3 ∨ pk P i = 4 ∨ pk P i = 5 ∨ pk P i = 6 ∨ pk P i = 7 ∨ pk P i = 8 by omega) with e0 | e0 | e0 | e0 | e0 | e0 | e0 | e0 | e0
    · refine lv_aload_n C.1 C.2.1 dX11_leaves_68 rfl (lv_at hl 0 rfl) ?_
      refine mg_get C hw 6 (by decide) tb_714 rfl dX11_leaves_69 ?_
      refine lv_iload_n C.1 C.2.1 dX11_leaves_72 rfl (lv_at hl 1 rfl) ?_
      refine lv_iconst (v := 0) C.1 C.2.1 dX11_leaves_73 (by decide) ?_
      refine ms_place C hw hS hi24 rfl dX11_leaves_74 (fun H locs hw hS => ?_)
      refine lv_aload_n C.1 C.2.1 dX11_leaves_75 rfl (lv_at hl 0 rfl) ?_
      refine mg_get C hw 2 (by decide) tb_710 rfl dX11_leaves_76 ?_
      refine lv_iload_n C.1 C.2.1 dX11_leaves_79 rfl (lv_at hl 1 rfl) ?_
      refine ma_kind C hw hi24 rfl dX11_leaves_80 ?_
      rw [show (uF F i 6 0) i 2 = nI 0 by rw [uF_ne (by decide), hF, e0]]
      refine lv_istore_n (lv' := [(3, .int (nI 0)), (0, .ref (q 0)), (1, .int (nI i))]) C.1 C.2.1 dX11_leaves_81 rfl hl (by decide) rfl (fun ls hl => ?_)
      refine lv_iload_n C.1 C.2.1 dX11_leaves_82 rfl (lv_at hl 0 rfl) ?_
      refine lv_iconst (v := 3) C.1 C.2.1 dX11_leaves_83 (by decide) ?_
      refine lv_icmp_ne (tgt := 104) C.1 C.2.1 dX11_leaves_84 (by decide) (fun _ => ?_) (fun h9 => absurd h9 (by decide))
      refine lv_iload_n C.1 C.2.1 dX11_leaves_104 rfl (lv_at hl 0 rfl) ?_
      refine lv_iconst (v := 4) C.1 C.2.1 dX11_leaves_105 (by decide) ?_
      refine lv_bipush (v := 7) C.1 C.2.1 dX11_leaves_106 (by decide) ?_
      refine ct_ret (ct_S C (c_X11_within l (nI 0) (4) (7)) Tr_bl (Or.inl rfl) tb_773 tb_3 ⟨Nat.le_of_ble_eq_true rfl, Nat.le_of_ble_eq_true rfl⟩ tb_771 ⟨by decide, by decide⟩ tb_772 (fun _ _ _ => trivial) (by show _ = some 3; decide +kernel) hl.1 rfl (Nat.le_of_ble_eq_true rfl) dX11_leaves_108 ⟨Nat.le_of_ble_eq_true rfl, Nat.le_of_ble_eq_true rfl⟩) hS (fun _ h => False.elim h) (fun t H locs ht hvm _ _ hk hS => ?_)
      have hw := m_kept hw hk
      refine lv_if_eq (tgt := 138) C.1 C.2.1 dX11_leaves_111 (by decide) (fun _ => ?_) (fun h9 => absurd (by decide) h9)
      refine lv_iload_n C.1 C.2.1 dX11_leaves_138 rfl (lv_at hl 0 rfl) ?_
      refine lv_iconst (v := 5) C.1 C.2.1 dX11_leaves_139 (by decide) ?_
      refine lv_icmp_ne (tgt := 183) C.1 C.2.1 dX11_leaves_140 (by decide) (fun _ => ?_) (fun h9 => absurd h9 (by decide))
      rw [show lR (pk P) i (F, B, G, dk) = (uF F i 6 0, iB B 0, G, dk.erase i) by unfold lR; rw [if_neg (by rw [e0]; decide), if_neg (by rw [e0]; decide), if_neg (by rw [e0]; decide)]]
      exact ct_v C hr hlocks rfl (fun t ht hW => mz_mk hro2 hw ht hW) hS (Nat.le_of_ble_eq_true rfl) (Nat.le_of_ble_eq_true rfl) dX11_leaves_183
    · refine lv_aload_n C.1 C.2.1 dX11_leaves_68 rfl (lv_at hl 0 rfl) ?_
      refine mg_get C hw 6 (by decide) tb_714 rfl dX11_leaves_69 ?_
      refine lv_iload_n C.1 C.2.1 dX11_leaves_72 rfl (lv_at hl 1 rfl) ?_
      refine lv_iconst (v := 0) C.1 C.2.1 dX11_leaves_73 (by decide) ?_
      refine ms_place C hw hS hi24 rfl dX11_leaves_74 (fun H locs hw hS => ?_)
      refine lv_aload_n C.1 C.2.1 dX11_leaves_75 rfl (lv_at hl 0 rfl) ?_
      refine mg_get C hw 2 (by decide) tb_710 rfl dX11_leaves_76 ?_
      refine lv_iload_n C.1 C.2.1 dX11_leaves_79 rfl (lv_at hl 1 rfl) ?_
      refine ma_kind C hw hi24 rfl dX11_leaves_80 ?_
      rw [show (uF F i 6 0) i 2 = nI 1 by rw [uF_ne (by decide), hF, e0]]
      refine lv_istore_n (lv' := [(3, .int (nI 1)), (0, .ref (q 0)), (1, .int (nI i))]) C.1 C.2.1 dX11_leaves_81 rfl hl (by decide) rfl (fun ls hl => ?_)
      refine lv_iload_n C.1 C.2.1 dX11_leaves_82 rfl (lv_at hl 0 rfl) ?_
      refine lv_iconst (v := 3) C.1 C.2.1 dX11_leaves_83 (by decide) ?_
      refine lv_icmp_ne (tgt := 104) C.1 C.2.1 dX11_leaves_84 (by decide) (fun _ => ?_) (fun h9 => absurd h9 (by decide))
      refine lv_iload_n C.1 C.2.1 dX11_leaves_104 rfl (lv_at hl 0 rfl) ?_
      refine lv_iconst (v := 4) C.1 C.2.1 dX11_leaves_105 (by decide) ?_
      refine lv_bipush (v := 7) C.1 C.2.1 dX11_leaves_106 (by decide) ?_
      refine ct_ret (ct_S C (c_X11_within l (nI 1) (4) (7)) Tr_bl (Or.inl rfl) tb_773 tb_3 ⟨Nat.le_of_ble_eq_true rfl, Nat.le_of_ble_eq_true rfl⟩ tb_771 ⟨by decide, by decide⟩ tb_772 (fun _ _ _ => trivial) (by show _ = some 3; decide +kernel) hl.1 rfl (Nat.le_of_ble_eq_true rfl) dX11_leaves_108 ⟨Nat.le_of_ble_eq_true rfl, Nat.le_of_ble_eq_true rfl⟩) hS (fun _ h => False.elim h) (fun t H locs ht hvm _ _ hk hS => ?_)
      have hw := m_kept hw hk
      refine lv_if_eq (tgt := 138) C.1 C.2.1 dX11_leaves_111 (by decide) (fun _ => ?_) (fun h9 => absurd (by decide) h9)
      refine lv_iload_n C.1 C.2.1 dX11_leaves_138 rfl (lv_at hl 0 rfl) ?_
      refine lv_iconst (v := 5) C.1 C.2.1 dX11_leaves_139 (by decide) ?_
      refine lv_icmp_ne (tgt := 183) C.1 C.2.1 dX11_leaves_140 (by decide) (fun _ => ?_) (fun h9 => absurd h9 (by decide))
      rw [show lR (pk P) i (F, B, G, dk) = (uF F i 6 0, iB B 0, G, dk.erase i) by unfold lR; rw [if_neg (by rw [e0]; decide), if_neg (by rw [e0]; decide), if_neg (by rw [e0]; decide)]]
      exact ct_v C hr hlocks rfl (fun t ht hW => mz_mk hro2 hw ht hW) hS (Nat.le_of_ble_eq_true rfl) (Nat.le_of_ble_eq_true rfl) dX11_leaves_183
    · refine lv_aload_n C.1 C.2.1 dX11_leaves_68 rfl (lv_at hl 0 rfl) ?_
      refine mg_get C hw 6 (by decide) tb_714 rfl dX11_leaves_69 ?_
      refine lv_iload_n C.1 C.2.1 dX11_leaves_72 rfl (lv_at hl 1 rfl) ?_
      refine lv_iconst (v := 0) C.1 C.2.1 dX11_leaves_73 (by decide) ?_
      refine ms_place C hw hS hi24 rfl dX11_leaves_74 (fun H locs hw hS => ?_)
      refine lv_aload_n C.1 C.2.1 dX11_leaves_75 rfl (lv_at hl 0 rfl) ?_
      refine mg_get C hw 2 (by decide) tb_710 rfl dX11_leaves_76 ?_
      refine lv_iload_n C.1 C.2.1 dX11_leaves_79 rfl (lv_at hl 1 rfl) ?_
      refine ma_kind C hw hi24 rfl dX11_leaves_80 ?_
      rw [show (uF F i 6 0) i 2 = nI 2 by rw [uF_ne (by decide), hF, e0]]
      refine lv_istore_n (lv' := [(3, .int (nI 2)), (0, .ref (q 0)), (1, .int (nI i))]) C.1 C.2.1 dX11_leaves_81 rfl hl (by decide) rfl (fun ls hl => ?_)
      refine lv_iload_n C.1 C.2.1 dX11_leaves_82 rfl (lv_at hl 0 rfl) ?_
      refine lv_iconst (v := 3) C.1 C.2.1 dX11_leaves_83 (by decide) ?_
      refine lv_icmp_ne (tgt := 104) C.1 C.2.1 dX11_leaves_84 (by decide) (fun _ => ?_) (fun h9 => absurd h9 (by decide))
      refine lv_iload_n C.1 C.2.1 dX11_leaves_104 rfl (lv_at hl 0 rfl) ?_
      refine lv_iconst (v := 4) C.1 C.2.1 dX11_leaves_105 (by decide) ?_
      refine lv_bipush (v := 7) C.1 C.2.1 dX11_leaves_106 (by decide) ?_
      refine ct_ret (ct_S C (c_X11_within l (nI 2) (4) (7)) Tr_bl (Or.inl rfl) tb_773 tb_3 ⟨Nat.le_of_ble_eq_true rfl, Nat.le_of_ble_eq_true rfl⟩ tb_771 ⟨by decide, by decide⟩ tb_772 (fun _ _ _ => trivial) (by show _ = some 3; decide +kernel) hl.1 rfl (Nat.le_of_ble_eq_true rfl) dX11_leaves_108 ⟨Nat.le_of_ble_eq_true rfl, Nat.le_of_ble_eq_true rfl⟩) hS (fun _ h => False.elim h) (fun t H locs ht hvm _ _ hk hS => ?_)
      have hw := m_kept hw hk
      refine lv_if_eq (tgt := 138) C.1 C.2.1 dX11_leaves_111 (by decide) (fun _ => ?_) (fun h9 => absurd (by decide) h9)
      refine lv_iload_n C.1 C.2.1 dX11_leaves_138 rfl (lv_at hl 0 rfl) ?_
      refine lv_iconst (v := 5) C.1 C.2.1 dX11_leaves_139 (by decide) ?_
      refine lv_icmp_ne (tgt := 183) C.1 C.2.1 dX11_leaves_140 (by decide) (fun _ => ?_) (fun h9 => absurd h9 (by decide))
      rw [show lR (pk P) i (F, B, G, dk) = (uF F i 6 0, iB B 0, G, dk.erase i) by unfold lR; rw [if_neg (by rw [e0]; decide), if_neg (by rw [e0]; decide), if_neg (by rw [e0]; decide)]]
      exact ct_v C hr hlocks rfl (fun t ht hW => mz_mk hro2 hw ht hW) hS (Nat.le_of_ble_eq_true rfl) (Nat.le_of_ble_eq_true rfl) dX11_leaves_183
    · refine lv_aload_n C.1 C.2.1 dX11_leaves_68 rfl (lv_at hl 0 rfl) ?_
      refine mg_get C hw 6 (by decide) tb_714 rfl dX11_leaves_69 ?_
      refine lv_iload_n C.1 C.2.1 dX11_leaves_72 rfl (lv_at hl 1 rfl) ?_
      refine lv_iconst (v := 0) C.1 C.2.1 dX11_leaves_73 (by decide) ?_
      refine ms_place C hw hS hi24 rfl dX11_leaves_74 (fun H locs hw hS => ?_)
      refine lv_aload_n C.1 C.2.1 dX11_leaves_75 rfl (lv_at hl 0 rfl) ?_
      refine mg_get C hw 2 (by decide) tb_710 rfl dX11_leaves_76 ?_
      refine lv_iload_n C.1 C.2.1 dX11_leaves_79 rfl (lv_at hl 1 rfl) ?_
      refine ma_kind C hw hi24 rfl dX11_leaves_80 ?_
      rw [show (uF F i 6 0) i 2 = nI 3 by rw [uF_ne (by decide), hF, e0]]
      refine lv_istore_n (lv' := [(3, .int (nI 3)), (0, .ref (q 0)), (1, .int (nI i))]) C.1 C.2.1 dX11_leaves_81 rfl hl (by decide) rfl (fun ls hl => ?_)
      refine lv_iload_n C.1 C.2.1 dX11_leaves_82 rfl (lv_at hl 0 rfl) ?_
      refine lv_iconst (v := 3) C.1 C.2.1 dX11_leaves_83 (by decide) ?_
      refine lv_icmp_ne (tgt := 104) C.1 C.2.1 dX11_leaves_84 (by decide) (fun h9 => absurd (by decide) h9) (fun _ => ?_)
      refine m_bump C hw tb_720 (lv_at hl 1 rfl) dX11_leaves_87 dX11_leaves_88 ?_
      refine lv_iconst (v := 3) C.1 C.2.1 dX11_leaves_91 (by decide) ?_
      refine m_inc C hw hS (j := 3) (by decide) (by decide) dX11_leaves_92 dX11_leaves_93 dX11_leaves_94 dX11_leaves_95 dX11_leaves_96 (fun H locs hw hS => ?_)
      refine lv_aload_n C.1 C.2.1 dX11_leaves_97 rfl (lv_at hl 1 rfl) ?_
      refine mg_get C hw 9 (by decide) tb_717 rfl dX11_leaves_98 ?_
      refine lv_iload_n C.1 C.2.1 dX11_leaves_101 rfl (lv_at hl 2 rfl) ?_
      refine lv_iconst (v := 0) C.1 C.2.1 dX11_leaves_102 (by decide) ?_
      refine ms_meter C hw hS hi24 rfl dX11_leaves_103 (fun H locs hw hS => ?_)
      refine lv_iload_n C.1 C.2.1 dX11_leaves_104 rfl (lv_at hl 0 rfl) ?_
      refine lv_iconst (v := 4) C.1 C.2.1 dX11_leaves_105 (by decide) ?_
      refine lv_bipush (v := 7) C.1 C.2.1 dX11_leaves_106 (by decide) ?_
      refine ct_ret (ct_S C (c_X11_within l (nI 3) (4) (7)) Tr_bl (Or.inl rfl) tb_773 tb_3 ⟨Nat.le_of_ble_eq_true rfl, Nat.le_of_ble_eq_true rfl⟩ tb_771 ⟨by decide, by decide⟩ tb_772 (fun _ _ _ => trivial) (by show _ = some 3; decide +kernel) hl.1 rfl (Nat.le_of_ble_eq_true rfl) dX11_leaves_108 ⟨Nat.le_of_ble_eq_true rfl, Nat.le_of_ble_eq_true rfl⟩) hS (fun _ h => False.elim h) (fun t H locs ht hvm _ _ hk hS => ?_)
      have hw := m_kept hw hk
      refine lv_if_eq (tgt := 138) C.1 C.2.1 dX11_leaves_111 (by decide) (fun _ => ?_) (fun h9 => absurd (by decide) h9)
      refine lv_iload_n C.1 C.2.1 dX11_leaves_138 rfl (lv_at hl 0 rfl) ?_
      refine lv_iconst (v := 5) C.1 C.2.1 dX11_leaves_139 (by decide) ?_
      refine lv_icmp_ne (tgt := 183) C.1 C.2.1 dX11_leaves_140 (by decide) (fun _ => ?_) (fun h9 => absurd h9 (by decide))
      rw [show lR (pk P) i (F, B, G, dk) = (uF (uF F i 6 0) i 9 0, iB (iB B 3) 0, G, dk.erase i) by unfold lR; rw [if_pos e0]]
      rw [iB_comm B 0 3] at hw
      exact ct_v C hr hlocks rfl (fun t ht hW => mz_mk hro2 hw ht hW) hS (Nat.le_of_ble_eq_true rfl) (Nat.le_of_ble_eq_true rfl) dX11_leaves_183
    · refine lv_aload_n C.1 C.2.1 dX11_leaves_68 rfl (lv_at hl 0 rfl) ?_
      refine mg_get C hw 6 (by decide) tb_714 rfl dX11_leaves_69 ?_
      refine lv_iload_n C.1 C.2.1 dX11_leaves_72 rfl (lv_at hl 1 rfl) ?_
      refine lv_iconst (v := 0) C.1 C.2.1 dX11_leaves_73 (by decide) ?_
      refine ms_place C hw hS hi24 rfl dX11_leaves_74 (fun H locs hw hS => ?_)
      refine lv_aload_n C.1 C.2.1 dX11_leaves_75 rfl (lv_at hl 0 rfl) ?_
      refine mg_get C hw 2 (by decide) tb_710 rfl dX11_leaves_76 ?_
      refine lv_iload_n C.1 C.2.1 dX11_leaves_79 rfl (lv_at hl 1 rfl) ?_
      refine ma_kind C hw hi24 rfl dX11_leaves_80 ?_
      rw [show (uF F i 6 0) i 2 = nI 4 by rw [uF_ne (by decide), hF, e0]]
      refine lv_istore_n (lv' := [(3, .int (nI 4)), (0, .ref (q 0)), (1, .int (nI i))]) C.1 C.2.1 dX11_leaves_81 rfl hl (by decide) rfl (fun ls hl => ?_)
      refine lv_iload_n C.1 C.2.1 dX11_leaves_82 rfl (lv_at hl 0 rfl) ?_
      refine lv_iconst (v := 3) C.1 C.2.1 dX11_leaves_83 (by decide) ?_
      refine lv_icmp_ne (tgt := 104) C.1 C.2.1 dX11_leaves_84 (by decide) (fun _ => ?_) (fun h9 => absurd h9 (by decide))
      refine lv_iload_n C.1 C.2.1 dX11_leaves_104 rfl (lv_at hl 0 rfl) ?_
      refine lv_iconst (v := 4) C.1 C.2.1 dX11_leaves_105 (by decide) ?_
      refine lv_bipush (v := 7) C.1 C.2.1 dX11_leaves_106 (by decide) ?_
      refine ct_ret (ct_S C (c_X11_within l (nI 4) (4) (7)) Tr_bl (Or.inl rfl) tb_773 tb_3 ⟨Nat.le_of_ble_eq_true rfl, Nat.le_of_ble_eq_true rfl⟩ tb_771 ⟨by decide, by decide⟩ tb_772 (fun _ _ _ => trivial) (by show _ = some 3; decide +kernel) hl.1 rfl (Nat.le_of_ble_eq_true rfl) dX11_leaves_108 ⟨Nat.le_of_ble_eq_true rfl, Nat.le_of_ble_eq_true rfl⟩) hS (fun _ h => False.elim h) (fun t H locs ht hvm _ _ hk hS => ?_)
      have hw := m_kept hw hk
      refine lv_if_eq (tgt := 138) C.1 C.2.1 dX11_leaves_111 (by decide) (fun h9 => absurd h9 (by decide)) (fun _ => ?_)
      refine m_bump C hw tb_720 (lv_at hl 1 rfl) dX11_leaves_114 dX11_leaves_115 ?_
      refine lv_iconst (v := 4) C.1 C.2.1 dX11_leaves_118 (by decide) ?_
      refine m_inc C hw hS (j := 4) (by decide) (by decide) dX11_leaves_119 dX11_leaves_120 dX11_leaves_121 dX11_leaves_122 dX11_leaves_123 (fun H locs hw hS => ?_)
      refine lv_aload_n C.1 C.2.1 dX11_leaves_124 rfl (lv_at hl 1 rfl) ?_
      refine mg_get C hw 4 (by decide) tb_712 rfl dX11_leaves_125 ?_
      refine lv_iload_n C.1 C.2.1 dX11_leaves_128 rfl (lv_at hl 2 rfl) ?_
      refine lv_aload_n C.1 C.2.1 dX11_leaves_129 rfl (lv_at hl 1 rfl) ?_
      refine mg_get C hw 4 (by decide) tb_712 rfl dX11_leaves_130 ?_
      refine lv_iload_n C.1 C.2.1 dX11_leaves_133 rfl (lv_at hl 2 rfl) ?_
      refine ma_load C hw hi24 rfl dX11_leaves_134 ?_
      refine lv_iconst (v := 2) C.1 C.2.1 dX11_leaves_135 (by decide) ?_
      refine lv_idiv C.1 C.2.1 dX11_leaves_136 (by decide) ?_
      refine ms_load C hw hS hi24 rfl dX11_leaves_137 (fun H locs hw hS => ?_)
      refine lv_iload_n C.1 C.2.1 dX11_leaves_138 rfl (lv_at hl 0 rfl) ?_
      refine lv_iconst (v := 5) C.1 C.2.1 dX11_leaves_139 (by decide) ?_
      refine lv_icmp_ne (tgt := 183) C.1 C.2.1 dX11_leaves_140 (by decide) (fun _ => ?_) (fun h9 => absurd h9 (by decide))
      rw [show lR (pk P) i (F, B, G, dk) = (uF (uF F i 6 0) i 5 (F i 5 / 2), iB (iB B 4) 0, G, dk.erase i) by unfold lR; rw [if_neg (by rw [e0]; decide), if_neg (by rw [e0]; decide), if_pos (by rw [e0]; decide)]]
      rw [iB_comm B 0 4, uF_ne (F := F) (b := 5) (v := 6) (by decide)] at hw
      exact ct_v C hr hlocks rfl (fun t ht hW => mz_mk hro2 hw ht hW) hS (Nat.le_of_ble_eq_true rfl) (Nat.le_of_ble_eq_true rfl) dX11_leaves_183
    · refine lv_aload_n C.1 C.2.1 dX11_leaves_68 rfl (lv_at hl 0 rfl) ?_
      refine mg_get C hw 6 (by decide) tb_714 rfl dX11_leaves_69 ?_
      refine lv_iload_n C.1 C.2.1 dX11_leaves_72 rfl (lv_at hl 1 rfl) ?_
      refine lv_iconst (v := 0) C.1 C.2.1 dX11_leaves_73 (by decide) ?_
      refine ms_place C hw hS hi24 rfl dX11_leaves_74 (fun H locs hw hS => ?_)
      refine lv_aload_n C.1 C.2.1 dX11_leaves_75 rfl (lv_at hl 0 rfl) ?_
      refine mg_get C hw 2 (by decide) tb_710 rfl dX11_leaves_76 ?_
      refine lv_iload_n C.1 C.2.1 dX11_leaves_79 rfl (lv_at hl 1 rfl) ?_
      refine ma_kind C hw hi24 rfl dX11_leaves_80 ?_
      rw [show (uF F i 6 0) i 2 = nI 5 by rw [uF_ne (by decide), hF, e0]]
      refine lv_istore_n (lv' := [(3, .int (nI 5)), (0, .ref (q 0)), (1, .int (nI i))]) C.1 C.2.1 dX11_leaves_81 rfl hl (by decide) rfl (fun ls hl => ?_)
      refine lv_iload_n C.1 C.2.1 dX11_leaves_82 rfl (lv_at hl 0 rfl) ?_
      refine lv_iconst (v := 3) C.1 C.2.1 dX11_leaves_83 (by decide) ?_
      refine lv_icmp_ne (tgt := 104) C.1 C.2.1 dX11_leaves_84 (by decide) (fun _ => ?_) (fun h9 => absurd h9 (by decide))
      refine lv_iload_n C.1 C.2.1 dX11_leaves_104 rfl (lv_at hl 0 rfl) ?_
      refine lv_iconst (v := 4) C.1 C.2.1 dX11_leaves_105 (by decide) ?_
      refine lv_bipush (v := 7) C.1 C.2.1 dX11_leaves_106 (by decide) ?_
      refine ct_ret (ct_S C (c_X11_within l (nI 5) (4) (7)) Tr_bl (Or.inl rfl) tb_773 tb_3 ⟨Nat.le_of_ble_eq_true rfl, Nat.le_of_ble_eq_true rfl⟩ tb_771 ⟨by decide, by decide⟩ tb_772 (fun _ _ _ => trivial) (by show _ = some 3; decide +kernel) hl.1 rfl (Nat.le_of_ble_eq_true rfl) dX11_leaves_108 ⟨Nat.le_of_ble_eq_true rfl, Nat.le_of_ble_eq_true rfl⟩) hS (fun _ h => False.elim h) (fun t H locs ht hvm _ _ hk hS => ?_)
      have hw := m_kept hw hk
      refine lv_if_eq (tgt := 138) C.1 C.2.1 dX11_leaves_111 (by decide) (fun h9 => absurd h9 (by decide)) (fun _ => ?_)
      refine m_bump C hw tb_720 (lv_at hl 1 rfl) dX11_leaves_114 dX11_leaves_115 ?_
      refine lv_iconst (v := 4) C.1 C.2.1 dX11_leaves_118 (by decide) ?_
      refine m_inc C hw hS (j := 4) (by decide) (by decide) dX11_leaves_119 dX11_leaves_120 dX11_leaves_121 dX11_leaves_122 dX11_leaves_123 (fun H locs hw hS => ?_)
      refine lv_aload_n C.1 C.2.1 dX11_leaves_124 rfl (lv_at hl 1 rfl) ?_
      refine mg_get C hw 4 (by decide) tb_712 rfl dX11_leaves_125 ?_
      refine lv_iload_n C.1 C.2.1 dX11_leaves_128 rfl (lv_at hl 2 rfl) ?_
      refine lv_aload_n C.1 C.2.1 dX11_leaves_129 rfl (lv_at hl 1 rfl) ?_
      refine mg_get C hw 4 (by decide) tb_712 rfl dX11_leaves_130 ?_
      refine lv_iload_n C.1 C.2.1 dX11_leaves_133 rfl (lv_at hl 2 rfl) ?_
      refine ma_load C hw hi24 rfl dX11_leaves_134 ?_
      refine lv_iconst (v := 2) C.1 C.2.1 dX11_leaves_135 (by decide) ?_
      refine lv_idiv C.1 C.2.1 dX11_leaves_136 (by decide) ?_
      refine ms_load C hw hS hi24 rfl dX11_leaves_137 (fun H locs hw hS => ?_)
      refine lv_iload_n C.1 C.2.1 dX11_leaves_138 rfl (lv_at hl 0 rfl) ?_
      refine lv_iconst (v := 5) C.1 C.2.1 dX11_leaves_139 (by decide) ?_
      refine lv_icmp_ne (tgt := 183) C.1 C.2.1 dX11_leaves_140 (by decide) (fun h9 => absurd (by decide) h9) (fun _ => ?_)
      refine m_bump C hw tb_720 (lv_at hl 1 rfl) dX11_leaves_143 dX11_leaves_144 ?_
      refine lv_iconst (v := 5) C.1 C.2.1 dX11_leaves_147 (by decide) ?_
      refine m_inc C hw hS (j := 5) (by decide) (by decide) dX11_leaves_148 dX11_leaves_149 dX11_leaves_150 dX11_leaves_151 dX11_leaves_152 (fun H locs hw hS => ?_)
      refine lv_aload_n C.1 C.2.1 dX11_leaves_153 rfl (lv_at hl 1 rfl) ?_
      refine lv_aload_n C.1 C.2.1 dX11_leaves_154 rfl (lv_at hl 1 rfl) ?_
      refine mg_get C hw 13 (by decide) tb_721 rfl dX11_leaves_155 ?_
      refine lv_bipush (v := 100) C.1 C.2.1 dX11_leaves_158 (by decide) ?_
      refine lv_iadd C.1 C.2.1 dX11_leaves_160 ?_
      refine lv_sipush (v := 9000) C.1 C.2.1 dX11_leaves_161 (by decide) ?_
      refine lv_icmp_le (tgt := 173) C.1 C.2.1 dX11_leaves_164 (by decide) (fun h1 => ?_) (fun h1 => ?_)
      · refine lv_aload_n C.1 C.2.1 dX11_leaves_173 rfl (lv_at hl 1 rfl) ?_
        refine mg_get C hw 13 (by decide) tb_721 rfl dX11_leaves_174 ?_
        refine lv_bipush (v := 100) C.1 C.2.1 dX11_leaves_177 (by decide) ?_
        refine lv_iadd C.1 C.2.1 dX11_leaves_179 ?_
        refine mp_lim C hw hS tb_721 dX11_leaves_180 (fun H locs hw hS => ?_)
        rw [show lR (pk P) i (F, B, G, dk) = (uF (uF F i 6 0) i 5 (F i 5 / 2), iB (iB (iB B 5) 4) 0, upd G 3 (mn (G 3 + 100) 9000), dk.erase i) by unfold lR; rw [if_neg (by rw [e0]; decide), if_pos e0]]
        rw [iB_comm B 0 4, iB_comm (iB B 4) 0 5, iB_comm B 4 5, uF_ne (F := F) (b := 5) (v := 6) (by decide), show (G 3 + 100 : Int32) = mn (G 3 + 100) 9000 from (if_neg (Int32.not_lt.mpr h1)).symm] at hw
        exact ct_v C hr hlocks rfl (fun t ht hW => mz_mk hro2 hw ht hW) hS (Nat.le_of_ble_eq_true rfl) (Nat.le_of_ble_eq_true rfl) dX11_leaves_183
      · refine lv_sipush (v := 9000) C.1 C.2.1 dX11_leaves_167 (by decide) ?_
        refine lv_goto (tgt := 180) C.1 C.2.1 dX11_leaves_170 (by decide) ?_
        refine mp_lim C hw hS tb_721 dX11_leaves_180 (fun H locs hw hS => ?_)
        rw [show lR (pk P) i (F, B, G, dk) = (uF (uF F i 6 0) i 5 (F i 5 / 2), iB (iB (iB B 5) 4) 0, upd G 3 (mn (G 3 + 100) 9000), dk.erase i) by unfold lR; rw [if_neg (by rw [e0]; decide), if_pos e0]]
        rw [iB_comm B 0 4, iB_comm (iB B 4) 0 5, iB_comm B 4 5, uF_ne (F := F) (b := 5) (v := 6) (by decide), show (9000 : Int32) = mn (G 3 + 100) 9000 from (if_pos (Int32.not_le.mp h1)).symm] at hw
        exact ct_v C hr hlocks rfl (fun t ht hW => mz_mk hro2 hw ht hW) hS (Nat.le_of_ble_eq_true rfl) (Nat.le_of_ble_eq_true rfl) dX11_leaves_183
    · refine lv_aload_n C.1 C.2.1 dX11_leaves_68 rfl (lv_at hl 0 rfl) ?_
      refine mg_get C hw 6 (by decide) tb_714 rfl dX11_leaves_69 ?_
      refine lv_iload_n C.1 C.2.1 dX11_leaves_72 rfl (lv_at hl 1 rfl) ?_
      refine lv_iconst (v := 0) C.1 C.2.1 dX11_leaves_73 (by decide) ?_
      refine ms_place C hw hS hi24 rfl dX11_leaves_74 (fun H locs hw hS => ?_)
      refine lv_aload_n C.1 C.2.1 dX11_leaves_75 rfl (lv_at hl 0 rfl) ?_
      refine mg_get C hw 2 (by decide) tb_710 rfl dX11_leaves_76 ?_
      refine lv_iload_n C.1 C.2.1 dX11_leaves_79 rfl (lv_at hl 1 rfl) ?_
      refine ma_kind C hw hi24 rfl dX11_leaves_80 ?_
      rw [show (uF F i 6 0) i 2 = nI 6 by rw [uF_ne (by decide), hF, e0]]
      refine lv_istore_n (lv' := [(3, .int (nI 6)), (0, .ref (q 0)), (1, .int (nI i))]) C.1 C.2.1 dX11_leaves_81 rfl hl (by decide) rfl (fun ls hl => ?_)
      refine lv_iload_n C.1 C.2.1 dX11_leaves_82 rfl (lv_at hl 0 rfl) ?_
      refine lv_iconst (v := 3) C.1 C.2.1 dX11_leaves_83 (by decide) ?_
      refine lv_icmp_ne (tgt := 104) C.1 C.2.1 dX11_leaves_84 (by decide) (fun _ => ?_) (fun h9 => absurd h9 (by decide))
      refine lv_iload_n C.1 C.2.1 dX11_leaves_104 rfl (lv_at hl 0 rfl) ?_
      refine lv_iconst (v := 4) C.1 C.2.1 dX11_leaves_105 (by decide) ?_
      refine lv_bipush (v := 7) C.1 C.2.1 dX11_leaves_106 (by decide) ?_
      refine ct_ret (ct_S C (c_X11_within l (nI 6) (4) (7)) Tr_bl (Or.inl rfl) tb_773 tb_3 ⟨Nat.le_of_ble_eq_true rfl, Nat.le_of_ble_eq_true rfl⟩ tb_771 ⟨by decide, by decide⟩ tb_772 (fun _ _ _ => trivial) (by show _ = some 3; decide +kernel) hl.1 rfl (Nat.le_of_ble_eq_true rfl) dX11_leaves_108 ⟨Nat.le_of_ble_eq_true rfl, Nat.le_of_ble_eq_true rfl⟩) hS (fun _ h => False.elim h) (fun t H locs ht hvm _ _ hk hS => ?_)
      have hw := m_kept hw hk
      refine lv_if_eq (tgt := 138) C.1 C.2.1 dX11_leaves_111 (by decide) (fun h9 => absurd h9 (by decide)) (fun _ => ?_)
      refine m_bump C hw tb_720 (lv_at hl 1 rfl) dX11_leaves_114 dX11_leaves_115 ?_
      refine lv_iconst (v := 4) C.1 C.2.1 dX11_leaves_118 (by decide) ?_
      refine m_inc C hw hS (j := 4) (by decide) (by decide) dX11_leaves_119 dX11_leaves_120 dX11_leaves_121 dX11_leaves_122 dX11_leaves_123 (fun H locs hw hS => ?_)
      refine lv_aload_n C.1 C.2.1 dX11_leaves_124 rfl (lv_at hl 1 rfl) ?_
      refine mg_get C hw 4 (by decide) tb_712 rfl dX11_leaves_125 ?_
      refine lv_iload_n C.1 C.2.1 dX11_leaves_128 rfl (lv_at hl 2 rfl) ?_
      refine lv_aload_n C.1 C.2.1 dX11_leaves_129 rfl (lv_at hl 1 rfl) ?_
      refine mg_get C hw 4 (by decide) tb_712 rfl dX11_leaves_130 ?_
      refine lv_iload_n C.1 C.2.1 dX11_leaves_133 rfl (lv_at hl 2 rfl) ?_
      refine ma_load C hw hi24 rfl dX11_leaves_134 ?_
      refine lv_iconst (v := 2) C.1 C.2.1 dX11_leaves_135 (by decide) ?_
      refine lv_idiv C.1 C.2.1 dX11_leaves_136 (by decide) ?_
      refine ms_load C hw hS hi24 rfl dX11_leaves_137 (fun H locs hw hS => ?_)
      refine lv_iload_n C.1 C.2.1 dX11_leaves_138 rfl (lv_at hl 0 rfl) ?_
      refine lv_iconst (v := 5) C.1 C.2.1 dX11_leaves_139 (by decide) ?_
      refine lv_icmp_ne (tgt := 183) C.1 C.2.1 dX11_leaves_140 (by decide) (fun _ => ?_) (fun h9 => absurd h9 (by decide))
      rw [show lR (pk P) i (F, B, G, dk) = (uF (uF F i 6 0) i 5 (F i 5 / 2), iB (iB B 4) 0, G, dk.erase i) by unfold lR; rw [if_neg (by rw [e0]; decide), if_neg (by rw [e0]; decide), if_pos (by rw [e0]; decide)]]
      rw [iB_comm B 0 4, uF_ne (F := F) (b := 5) (v := 6) (by decide)] at hw
      exact ct_v C hr hlocks rfl (fun t ht hW => mz_mk hro2 hw ht hW) hS (Nat.le_of_ble_eq_true rfl) (Nat.le_of_ble_eq_true rfl) dX11_leaves_183
    · refine lv_aload_n C.1 C.2.1 dX11_leaves_68 rfl (lv_at hl 0 rfl) ?_
      refine mg_get C hw 6 (by decide) tb_714 rfl dX11_leaves_69 ?_
      refine lv_iload_n C.1 C.2.1 dX11_leaves_72 rfl (lv_at hl 1 rfl) ?_
      refine lv_iconst (v := 0) C.1 C.2.1 dX11_leaves_73 (by decide) ?_
      refine ms_place C hw hS hi24 rfl dX11_leaves_74 (fun H locs hw hS => ?_)
      refine lv_aload_n C.1 C.2.1 dX11_leaves_75 rfl (lv_at hl 0 rfl) ?_
      refine mg_get C hw 2 (by decide) tb_710 rfl dX11_leaves_76 ?_
      refine lv_iload_n C.1 C.2.1 dX11_leaves_79 rfl (lv_at hl 1 rfl) ?_
      refine ma_kind C hw hi24 rfl dX11_leaves_80 ?_
      rw [show (uF F i 6 0) i 2 = nI 7 by rw [uF_ne (by decide), hF, e0]]
      refine lv_istore_n (lv' := [(3, .int (nI 7)), (0, .ref (q 0)), (1, .int (nI i))]) C.1 C.2.1 dX11_leaves_81 rfl hl (by decide) rfl (fun ls hl => ?_)
      refine lv_iload_n C.1 C.2.1 dX11_leaves_82 rfl (lv_at hl 0 rfl) ?_
      refine lv_iconst (v := 3) C.1 C.2.1 dX11_leaves_83 (by decide) ?_
      refine lv_icmp_ne (tgt := 104) C.1 C.2.1 dX11_leaves_84 (by decide) (fun _ => ?_) (fun h9 => absurd h9 (by decide))
      refine lv_iload_n C.1 C.2.1 dX11_leaves_104 rfl (lv_at hl 0 rfl) ?_
      refine lv_iconst (v := 4) C.1 C.2.1 dX11_leaves_105 (by decide) ?_
      refine lv_bipush (v := 7) C.1 C.2.1 dX11_leaves_106 (by decide) ?_
      refine ct_ret (ct_S C (c_X11_within l (nI 7) (4) (7)) Tr_bl (Or.inl rfl) tb_773 tb_3 ⟨Nat.le_of_ble_eq_true rfl, Nat.le_of_ble_eq_true rfl⟩ tb_771 ⟨by decide, by decide⟩ tb_772 (fun _ _ _ => trivial) (by show _ = some 3; decide +kernel) hl.1 rfl (Nat.le_of_ble_eq_true rfl) dX11_leaves_108 ⟨Nat.le_of_ble_eq_true rfl, Nat.le_of_ble_eq_true rfl⟩) hS (fun _ h => False.elim h) (fun t H locs ht hvm _ _ hk hS => ?_)
      have hw := m_kept hw hk
      refine lv_if_eq (tgt := 138) C.1 C.2.1 dX11_leaves_111 (by decide) (fun h9 => absurd h9 (by decide)) (fun _ => ?_)
      refine m_bump C hw tb_720 (lv_at hl 1 rfl) dX11_leaves_114 dX11_leaves_115 ?_
      refine lv_iconst (v := 4) C.1 C.2.1 dX11_leaves_118 (by decide) ?_
      refine m_inc C hw hS (j := 4) (by decide) (by decide) dX11_leaves_119 dX11_leaves_120 dX11_leaves_121 dX11_leaves_122 dX11_leaves_123 (fun H locs hw hS => ?_)
      refine lv_aload_n C.1 C.2.1 dX11_leaves_124 rfl (lv_at hl 1 rfl) ?_
      refine mg_get C hw 4 (by decide) tb_712 rfl dX11_leaves_125 ?_
      refine lv_iload_n C.1 C.2.1 dX11_leaves_128 rfl (lv_at hl 2 rfl) ?_
      refine lv_aload_n C.1 C.2.1 dX11_leaves_129 rfl (lv_at hl 1 rfl) ?_
      refine mg_get C hw 4 (by decide) tb_712 rfl dX11_leaves_130 ?_
      refine lv_iload_n C.1 C.2.1 dX11_leaves_133 rfl (lv_at hl 2 rfl) ?_
      refine ma_load C hw hi24 rfl dX11_leaves_134 ?_
      refine lv_iconst (v := 2) C.1 C.2.1 dX11_leaves_135 (by decide) ?_
      refine lv_idiv C.1 C.2.1 dX11_leaves_136 (by decide) ?_
      refine ms_load C hw hS hi24 rfl dX11_leaves_137 (fun H locs hw hS => ?_)
      refine lv_iload_n C.1 C.2.1 dX11_leaves_138 rfl (lv_at hl 0 rfl) ?_
      refine lv_iconst (v := 5) C.1 C.2.1 dX11_leaves_139 (by decide) ?_
      refine lv_icmp_ne (tgt := 183) C.1 C.2.1 dX11_leaves_140 (by decide) (fun _ => ?_) (fun h9 => absurd h9 (by decide))
      rw [show lR (pk P) i (F, B, G, dk) = (uF (uF F i 6 0) i 5 (F i 5 / 2), iB (iB B 4) 0, G, dk.erase i) by unfold lR; rw [if_neg (by rw [e0]; decide), if_neg (by rw [e0]; decide), if_pos (by rw [e0]; decide)]]
      rw [iB_comm B 0 4, uF_ne (F := F) (b := 5) (v := 6) (by decide)] at hw
      exact ct_v C hr hlocks rfl (fun t ht hW => mz_mk hro2 hw ht hW) hS (Nat.le_of_ble_eq_true rfl) (Nat.le_of_ble_eq_true rfl) dX11_leaves_183
    · refine lv_aload_n C.1 C.2.1 dX11_leaves_68 rfl (lv_at hl 0 rfl) ?_
      refine mg_get C hw 6 (by decide) tb_714 rfl dX11_leaves_69 ?_
      refine lv_iload_n C.1 C.2.1 dX11_leaves_72 rfl (lv_at hl 1 rfl) ?_
      refine lv_iconst (v := 0) C.1 C.2.1 dX11_leaves_73 (by decide) ?_
      refine ms_place C hw hS hi24 rfl dX11_leaves_74 (fun H locs hw hS => ?_)
      refine lv_aload_n C.1 C.2.1 dX11_leaves_75 rfl (lv_at hl 0 rfl) ?_
      refine mg_get C hw 2 (by decide) tb_710 rfl dX11_leaves_76 ?_
      refine lv_iload_n C.1 C.2.1 dX11_leaves_79 rfl (lv_at hl 1 rfl) ?_
      refine ma_kind C hw hi24 rfl dX11_leaves_80 ?_
      rw [show (uF F i 6 0) i 2 = nI 8 by rw [uF_ne (by decide), hF, e0]]
      refine lv_istore_n (lv' := [(3, .int (nI 8)), (0, .ref (q 0)), (1, .int (nI i))]) C.1 C.2.1 dX11_leaves_81 rfl hl (by decide) rfl (fun ls hl => ?_)
      refine lv_iload_n C.1 C.2.1 dX11_leaves_82 rfl (lv_at hl 0 rfl) ?_
      refine lv_iconst (v := 3) C.1 C.2.1 dX11_leaves_83 (by decide) ?_
      refine lv_icmp_ne (tgt := 104) C.1 C.2.1 dX11_leaves_84 (by decide) (fun _ => ?_) (fun h9 => absurd h9 (by decide))
      refine lv_iload_n C.1 C.2.1 dX11_leaves_104 rfl (lv_at hl 0 rfl) ?_
      refine lv_iconst (v := 4) C.1 C.2.1 dX11_leaves_105 (by decide) ?_
      refine lv_bipush (v := 7) C.1 C.2.1 dX11_leaves_106 (by decide) ?_
      refine ct_ret (ct_S C (c_X11_within l (nI 8) (4) (7)) Tr_bl (Or.inl rfl) tb_773 tb_3 ⟨Nat.le_of_ble_eq_true rfl, Nat.le_of_ble_eq_true rfl⟩ tb_771 ⟨by decide, by decide⟩ tb_772 (fun _ _ _ => trivial) (by show _ = some 3; decide +kernel) hl.1 rfl (Nat.le_of_ble_eq_true rfl) dX11_leaves_108 ⟨Nat.le_of_ble_eq_true rfl, Nat.le_of_ble_eq_true rfl⟩) hS (fun _ h => False.elim h) (fun t H locs ht hvm _ _ hk hS => ?_)
      have hw := m_kept hw hk
      refine lv_if_eq (tgt := 138) C.1 C.2.1 dX11_leaves_111 (by decide) (fun _ => ?_) (fun h9 => absurd (by decide) h9)
      refine lv_iload_n C.1 C.2.1 dX11_leaves_138 rfl (lv_at hl 0 rfl) ?_
      refine lv_iconst (v := 5) C.1 C.2.1 dX11_leaves_139 (by decide) ?_
      refine lv_icmp_ne (tgt := 183) C.1 C.2.1 dX11_leaves_140 (by decide) (fun _ => ?_) (fun h9 => absurd h9 (by decide))
      rw [show lR (pk P) i (F, B, G, dk) = (uF F i 6 0, iB B 0, G, dk.erase i) by unfold lR; rw [if_neg (by rw [e0]; decide), if_neg (by rw [e0]; decide), if_neg (by rw [e0]; decide)]]
      exact ct_v C hr hlocks rfl (fun t ht hW => mz_mk hro2 hw ht hW) hS (Nat.le_of_ble_eq_true rfl) (Nat.le_of_ble_eq_true rfl) dX11_leaves_183
  have shift : ∀ (k j : Nat), j + k = dk.length - 1 → a ≤ j → ∀ (x : Int32), x = nI j → ∀ (H : Heap) (locs : List Loc), MwR D A q cI (pn P) F (iB B 0) G (nI (dk.length - 1)) (shf r a j) thr dv s H → va_S A s.heap H locs → ∀ ls : Array Slot, lv_has ls 4 [(3, .int x), (0, .ref (q 0)), (1, .int (nI i))] → W p l e ({ frames := 1, cells := 0, slots := 0, locals := 22 }) s m ([.ref (q 0), .int (nI i)] : List Value).toArray below meth c H locs 0 0 (CtQ below s ([.ref (q 0), .int (nI i)] : List Value).toArray ({ frames := 1, cells := 0, slots := 0, locals := 22 }) A (.inl none) (Mz D A q cI (pn P) (lR (pk P) i (F, B, G, dk)).1 (lR (pk P) i (F, B, G, dk)).2.1 (lR (pk P) i (F, B, G, dk)).2.2.1 (lR (pk P) i (F, B, G, dk)).2.2.2 thr)) (F0 m 40 ls []) := by
    intro k
    induction k with
    | zero =>
      intro j hj hja x hx H locs hw hS ls hl
      have hj : j = dk.length - 1 := by omega
      rw [hj] at hw
      refine lv_iload_n C.1 C.2.1 dX11_leaves_40 rfl (lv_at hl 0 rfl) ?_
      refine lv_aload_n C.1 C.2.1 dX11_leaves_41 rfl (lv_at hl 1 rfl) ?_
      refine mg_get C hw 11 (by decide) tb_719 rfl dX11_leaves_42 ?_
      refine lv_icmp_ge (tgt := 68) C.1 C.2.1 dX11_leaves_45 (by decide) (fun h1 => ?_) (fun h1 => ?_)
      · exact tail H locs hw hS ls (lv_sub hl [1, 2] rfl)
      · exact absurd (by rw [hx, hj]; exact Int32.le_refl _) h1
    | succ k ih =>
      intro j hj hja x hx H locs hw hS ls hl
      refine lv_iload_n C.1 C.2.1 dX11_leaves_40 rfl (lv_at hl 0 rfl) ?_
      refine lv_aload_n C.1 C.2.1 dX11_leaves_41 rfl (lv_at hl 1 rfl) ?_
      refine mg_get C hw 11 (by decide) tb_719 rfl dX11_leaves_42 ?_
      refine lv_icmp_ge (tgt := 68) C.1 C.2.1 dX11_leaves_45 (by decide) (fun h1 => ?_) (fun h1 => ?_)
      · exact absurd (by rw [hx] at h1; exact h1) (nI_ge (a := j) (b := dk.length - 1) (by omega) (by omega))
      · refine lv_aload_n C.1 C.2.1 dX11_leaves_48 rfl (lv_at hl 1 rfl) ?_
        refine mg_get C hw 10 (by decide) tb_718 rfl dX11_leaves_49 ?_
        refine lv_iload_n C.1 C.2.1 dX11_leaves_52 rfl (lv_at hl 0 rfl) ?_
        refine lv_aload_n C.1 C.2.1 dX11_leaves_53 rfl (lv_at hl 1 rfl) ?_
        refine mg_get C hw 10 (by decide) tb_718 rfl dX11_leaves_54 ?_
        refine lv_iload_n C.1 C.2.1 dX11_leaves_57 rfl (lv_at hl 0 rfl) ?_
        refine lv_iconst (v := 1) C.1 C.2.1 dX11_leaves_58 (by decide) ?_
        refine lv_iadd C.1 C.2.1 dX11_leaves_59 ?_
        refine ma_row C hw (j := j + 1) (show j + 1 < 24 by omega) (by rw [hx]; exact nI_1 j) dX11_leaves_60 ?_
        refine ms_row C hw hS (show j < 24 by omega) hx dX11_leaves_61 (fun H locs hw hS => ?_)
        rw [shf_s hja] at hw
        obtain ⟨x1, ex1⟩ : ∃ z : Int32, z = x + 1 := ⟨_, rfl⟩
        refine lv_iinc (v := x1) (lv' := [(3, .int (x1)), (0, .ref (q 0)), (1, .int (nI i))]) C.1 C.2.1 dX11_leaves_62 hl (k := 0) rfl (by rw [ex1]; rfl) (by decide) rfl (fun ls hl => ?_)
        refine lv_goto (tgt := 40) C.1 C.2.1 dX11_leaves_65 (by decide) ?_
        exact ih (j + 1) (by omega) (by omega) x1 (by rw [ex1, hx]; exact nI_1 j) H locs hw hS ls (lv_sub hl [0, 1, 2] rfl)
  have find : ∀ (k j : Nat), j + k = a → ∀ (x : Int32), x = nI j → ∀ (H : Heap) (locs : List Loc), MwR D A q cI (pn P) F (iB B 0) G (nI dk.length) r thr dv s H → va_S A s.heap H locs → ∀ ls : Array Slot, lv_has ls 4 [(2, .int x), (0, .ref (q 0)), (1, .int (nI i))] → W p l e ({ frames := 1, cells := 0, slots := 0, locals := 22 }) s m ([.ref (q 0), .int (nI i)] : List Value).toArray below meth c H locs 0 0 (CtQ below s ([.ref (q 0), .int (nI i)] : List Value).toArray ({ frames := 1, cells := 0, slots := 0, locals := 22 }) A (.inl none) (Mz D A q cI (pn P) (lR (pk P) i (F, B, G, dk)).1 (lR (pk P) i (F, B, G, dk)).2.1 (lR (pk P) i (F, B, G, dk)).2.2.1 (lR (pk P) i (F, B, G, dk)).2.2.2 thr)) (F0 m 12 ls []) := by
    intro k
    induction k with
    | zero =>
      intro j hj x hx H locs hw hS ls hl
      have hj : j = a := by omega
      subst hj
      refine lv_aload_n C.1 C.2.1 dX11_leaves_12 rfl (lv_at hl 1 rfl) ?_
      refine mg_get C hw 10 (by decide) tb_718 rfl dX11_leaves_13 ?_
      refine lv_iload_n C.1 C.2.1 dX11_leaves_16 rfl (lv_at hl 0 rfl) ?_
      refine ma_row C hw (j := j) (show j < 24 by omega) hx dX11_leaves_17 ?_
      rw [hro j i ha]
      refine lv_iload_n C.1 C.2.1 dX11_leaves_18 rfl (lv_at hl 2 rfl) ?_
      refine lv_icmp_eq (tgt := 28) C.1 C.2.1 dX11_leaves_19 (by decide) (fun h1 => ?_) (fun h1 => ?_)
      · refine lv_aload_n C.1 C.2.1 dX11_leaves_28 rfl (lv_at hl 1 rfl) ?_
        refine lv_dup C.1 C.2.1 dX11_leaves_29 rfl ?_
        refine mg_get C hw 11 (by decide) tb_719 rfl dX11_leaves_30 ?_
        refine lv_iconst (v := 1) C.1 C.2.1 dX11_leaves_33 (by decide) ?_
        refine lv_isub C.1 C.2.1 dX11_leaves_34 ?_
        refine mp_cnt C hw hS tb_719 dX11_leaves_35 (fun H locs hw hS => ?_)
        rw [show nI dk.length - 1 = nI (dk.length - 1) by rw [show dk.length = (dk.length - 1) + 1 by omega]; exact nI_pred _] at hw
        rw [← shf_0 (r := r) (a := j)] at hw
        refine lv_iload_n C.1 C.2.1 dX11_leaves_38 rfl (lv_at hl 0 rfl) ?_
        refine lv_istore_n (lv' := [(3, .int (x)), (2, .int (x)), (0, .ref (q 0)), (1, .int (nI i))]) C.1 C.2.1 dX11_leaves_39 rfl hl (by decide) rfl (fun ls hl => ?_)
        exact shift (dk.length - 1 - j) j (by omega) (Nat.le_refl _) x hx H locs hw hS ls (lv_sub hl [0, 2, 3] rfl)
      · exact absurd rfl h1
    | succ k ih =>
      intro j hj x hx H locs hw hS ls hl
      obtain ⟨v, hdj⟩ : ∃ v, dk[j]? = some v := ⟨_, List.getElem?_eq_getElem (show j < dk.length by omega)⟩
      have hv := (hO.v hdj).1
      refine lv_aload_n C.1 C.2.1 dX11_leaves_12 rfl (lv_at hl 1 rfl) ?_
      refine mg_get C hw 10 (by decide) tb_718 rfl dX11_leaves_13 ?_
      refine lv_iload_n C.1 C.2.1 dX11_leaves_16 rfl (lv_at hl 0 rfl) ?_
      refine ma_row C hw (j := j) (show j < 24 by omega) hx dX11_leaves_17 ?_
      rw [hro j v hdj]
      refine lv_iload_n C.1 C.2.1 dX11_leaves_18 rfl (lv_at hl 2 rfl) ?_
      refine lv_icmp_eq (tgt := 28) C.1 C.2.1 dX11_leaves_19 (by decide) (fun h1 => ?_) (fun h1 => ?_)
      · exact absurd (at_uniq hnd ha (hdj.trans (congrArg some ((nI_eq (by have := hO.1; omega) (by omega)).mp h1)))) (by omega)
      · obtain ⟨x1, ex1⟩ : ∃ z : Int32, z = x + 1 := ⟨_, rfl⟩
        refine lv_iinc (v := x1) (lv' := [(2, .int (x1)), (0, .ref (q 0)), (1, .int (nI i))]) C.1 C.2.1 dX11_leaves_22 hl (k := 0) rfl (by rw [ex1]; rfl) (by decide) rfl (fun ls hl => ?_)
        refine lv_goto (tgt := 12) C.1 C.2.1 dX11_leaves_25 (by decide) ?_
        exact ih (j + 1) (by omega) x1 (by rw [ex1, hx]; exact nI_1 j) H locs hw hS ls (lv_sub hl [0, 1, 2] rfl)
  refine m_bump C hw tb_720 (lv_at hl 0 rfl) dX11_leaves_0 dX11_leaves_1 ?_
  refine lv_iconst (v := 0) C.1 C.2.1 dX11_leaves_4 (by decide) ?_
  refine m_inc C hw hS (j := 0) (by decide) (by decide) dX11_leaves_5 dX11_leaves_6 dX11_leaves_7 dX11_leaves_8 dX11_leaves_9 (fun H locs hw hS => ?_)
  refine lv_iconst (v := 0) C.1 C.2.1 dX11_leaves_10 (by decide) ?_
  refine lv_istore_n (lv' := [(2, .int (0)), (0, .ref (q 0)), (1, .int (nI i))]) C.1 C.2.1 dX11_leaves_11 rfl hl (by decide) rfl (fun ls hl => ?_)
  exact find a 0 (by omega) 0 nI_0.symm _ _ hw hS ls hl
