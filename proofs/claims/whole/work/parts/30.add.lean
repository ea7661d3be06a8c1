/-! add -/
def addO (ki ma lo sh : Int32) : Bool := outs ki 0 8 || outs ma 1 5000 || (outs lo 0 5000 || outs sh 0 100)
def addP0 (P : SwP) (sz k : Nat) : SwP := (fun j => if j = 7 then pn P + 1 else P.1 j, va_up (pa P) (pn P) sz, va_up (pk P) (pn P) k)
def addF0 (n : Nat) (F : Nat → Nat → Int32) (ki ma lo sh : Int32) : Nat → Nat → Int32 := fun a b => if a = n then (if b = 2 then ki else if b = 3 then ma else if b = 4 then sh else if b = 5 then lo else 0) else F a b
def addV (n : Nat) (ki ma lo sh : Int32) : Int32 := if addO ki ma lo sh = true then -102 else if n = 24 then -104 else nI n
def addP (P : SwP) (sz : Nat) (ki ma lo sh : Int32) : SwP := if addO ki ma lo sh = true then P else if pn P = 24 then P else addP0 P sz ki.toNatClampNeg
def addF (n : Nat) (F : Nat → Nat → Int32) (ki ma lo sh : Int32) : Nat → Nat → Int32 := if addO ki ma lo sh = true then F else if n = 24 then F else addF0 n F ki ma lo sh
section AddS
variable {P : SwP} {sz k : Nat} {F : Nat → Nat → Int32} {B G : Nat → Int32} {dk : List Nat} {ki ma lo sh : Int32}
theorem a_pn : pn (addP0 P sz k) = pn P + 1 := rfl
theorem a_pa {j : Nat} (h : j < pn P) : pa (addP0 P sz k) j = pa P j := va_up_ne _ _ (by omega)
theorem a_pk {j : Nat} (h : j < pn P) : pk (addP0 P sz k) j = pk P j := va_up_ne _ _ (by omega)
theorem a_pan : pa (addP0 P sz k) (pn P) = sz := va_up_self _ _ _
theorem a_pkn : pk (addP0 P sz k) (pn P) = k := va_up_self _ _ _
theorem a_F {a b : Nat} (h : a ≠ pn P) : addF0 (pn P) F ki ma lo sh a b = F a b := if_neg h
theorem a_dfd (hd : ∀ v, v ∈ dk → v < pn P) : dfd (addP0 P sz k) dk = dfd P dk := by
  funext j
  unfold dfd
  cases h : dk[j]? with
  | none => rfl
  | some v => exact congrArg some (a_pa (hd v (List.mem_of_getElem? h)))
theorem a_vfd : vfd (addP0 P sz k) = va_up (vfd P) (pn P) (some sz) := by
  funext j
  unfold vfd va_up
  dsimp only
  rw [a_pn]
  by_cases h : j = pn P
  · subst h
    rw [if_pos (by omega), if_pos rfl, a_pan]
  · rw [if_neg h]
    by_cases h2 : j < pn P
    · rw [if_pos (by omega), if_pos h2, a_pa h2]
    · rw [if_neg (by omega), if_neg h2]
theorem a_ws {n : Int32} {fd : Nat → Option Nat} : ((xws P F B G n fd ++ [(sz, (.inr (k, [.ref (pB P), .int (nI (pn P)), .int ki, .int ma, .int sh, .int lo, .int 0, .int 0, .int 0, .int 0]) : va_E))]).set 2 (pV P, .inl (pR P, 24, .inr (.inr (.inr (.inr (va_up (vfd P) (pn P) (some sz)))))))).set 0 (pS P, .inr (10, [.ref (pB P), .ref (pV P), .int (nI (pn P) + 1)])) = xws (addP0 P sz k) (addF0 (pn P) F ki ma lo sh) B G n fd := by
  unfold xws
  rw [a_pn, List.range_succ, List.map_append, List.append_assoc]
  have h1 : (List.range (pn P)).map (vcell (addP0 P sz k) (addF0 (pn P) F ki ma lo sh)) = (List.range (pn P)).map (vcell P F) := by
    apply List.map_congr_left
    intro j hj
    have hj : j < pn P := List.mem_range.mp hj
    unfold vcell vfs
    rw [a_pa hj, a_pk hj, a_F (by omega), a_F (by omega), a_F (by omega), a_F (by omega), a_F (by omega), a_F (by omega), a_F (by omega), a_F (by omega)]
    rfl
  have h2 : [pn P].map (vcell (addP0 P sz k) (addF0 (pn P) F ki ma lo sh)) = [(sz, (.inr (k, [.ref (pB P), .int (nI (pn P)), .int ki, .int ma, .int sh, .int lo, .int 0, .int 0, .int 0, .int 0]) : va_E))] := by
    show [vcell _ _ _] = _
    unfold vcell vfs
    rw [a_pan, a_pkn]
    unfold addF0
    simp only [if_true]
    rfl
  rw [h1, h2]
  unfold xfix
  rw [a_vfd, nI_1]
  rfl
theorem add_k (h : outs ki 0 8 = false) : ∃ k : Nat, k < 9 ∧ ki = nI k := by
  have h1 := of_decide_eq_false h
  obtain ⟨j, hj, e⟩ := nI_of2 (M := 8) (n := 8) rfl (fun q => h1 (Or.inl q)) (Int32.not_lt.mp (fun q => h1 (Or.inr q)))
  exact ⟨j, by omega, e⟩
theorem addO_f (h : addO ki ma lo sh = false) : outs ki 0 8 = false ∧ outs ma 1 5000 = false ∧ outs lo 0 5000 = false ∧ outs sh 0 100 = false := by
  unfold addO at h
  simpa [Bool.or_eq_false_iff, and_assoc] using h
theorem add_inv (hI : Inv P (F, B, G, dk)) (hO : addO ki ma lo sh = false) (hn : pn P ≠ 24) (hk : k < 9) (hki : ki = nI k) : Inv (addP0 P sz k) (addF0 (pn P) F ki ma lo sh, B, G, dk) := by
  obtain ⟨i1, i2, i3, i4, i5, i6, i7, i8⟩ := hI
  have hlt : ∀ v, v ∈ dk → v < pn P := i1.2.2.2.1
  have h24 : pn P ≤ 24 := i1.1
  have hs := addO_f hO
  refine ⟨⟨by rw [a_pn]; omega, fun j hj => ?_, fun j hj => ?_, fun v hv => by rw [a_pn]; exact Nat.lt_succ_of_lt (hlt v hv), i1.2.2.2.2⟩, i2, fun j hj => (a_F (Nat.ne_of_lt (hlt j hj))).trans (i3 j hj), fun j hj hn2 => ?_, i5, i6, fun j hj => ?_, fun a ha b => ?_⟩
  · rw [a_pn] at hj
    by_cases q : j = pn P
    · rw [q, a_pkn]; exact hk
    · rw [a_pk (by omega)]; exact i1.2.1 j (by omega)
  · rw [a_pn] at hj
    by_cases q : j = pn P
    · rw [q, a_pkn, ← hki]; exact (if_pos rfl).trans (if_pos rfl)
    · rw [a_pk (by omega)]; exact (a_F q).trans (i1.2.2.1 j (by omega))
  · rw [a_pn] at hj
    by_cases q : j = pn P
    · rw [q]; exact (if_pos rfl).trans rfl
    · exact (a_F q).trans (i4 j (by omega) hn2)
  · rw [a_pn] at hj
    by_cases q : j = pn P
    · have h4 := of_decide_eq_false hs.2.2.2
      show addF0 (pn P) F ki ma lo sh j 4 ≤ 100
      rw [q, show addF0 (pn P) F ki ma lo sh (pn P) 4 = sh from (if_pos rfl).trans rfl]
      exact Int32.not_lt.mp (fun z => h4 (Or.inr z))
    · show addF0 (pn P) F ki ma lo sh j 4 ≤ 100
      rw [a_F q]; exact i7 j (by omega)
  · rw [a_pn] at ha
    exact (a_F (by omega)).trans (i8 a (by omega) b)
end AddS
set_option maxHeartbeats 400000 in
set_option maxRecDepth 100000 in
/-- isOutside makes nothing -/
theorem c_X10_isOutsideZ (l : Launch) (sz : Nat) (x a b : Int32) : Ct l yX10_isOutside (.code yX10_isOutside cX10_isOutside 3 (some .boolean)) ({ frames := 0, cells := 0, slots := 0, locals := 0 }) No [.int x, .int a, .int b] (fun U => U.heap.size = sz) (.inl (some (.int (b2i (outs x a b))))) (fun U => U.heap.size = sz) := by
  refine ct_mk (by decide) (Nat.le_of_ble_eq_true rfl) (fun p e s m below meth c ls C hr hlocks hnm htab hP hl => ?_)
  have hS : va_S No s.heap s.heap [] := va_S.rf
  have hl : lv_has ls 3 [(0, .int x), (1, .int a), (2, .int b)] := hl
  refine lv_iload_n C.1 C.2.1 dX10_isOutside_0 rfl (lv_at hl 0 rfl) ?_
  refine lv_iload_n C.1 C.2.1 dX10_isOutside_1 rfl (lv_at hl 1 rfl) ?_
  refine lv_icmp_lt (tgt := 10) C.1 C.2.1 dX10_isOutside_2 (by decide) (fun h1 => ?_) (fun h1 => ?_)
  · refine lv_iconst (v := 1) C.1 C.2.1 dX10_isOutside_10 (by decide) ?_
    refine lv_goto (tgt := 15) C.1 C.2.1 dX10_isOutside_11 (by decide) ?_
    exact ct_z C hr hlocks (Or.inr rfl) (by rw [show outs x a b = true from decide_eq_true (Or.inl h1)]; rfl) (fun t ht hW => by rw [ht]; exact hP) hS (Nat.le_of_ble_eq_true rfl) (Nat.le_of_ble_eq_true rfl) dX10_isOutside_15
  · refine lv_iload_n C.1 C.2.1 dX10_isOutside_5 rfl (lv_at hl 0 rfl) ?_
    refine lv_iload_n C.1 C.2.1 dX10_isOutside_6 rfl (lv_at hl 2 rfl) ?_
    refine lv_icmp_le (tgt := 14) C.1 C.2.1 dX10_isOutside_7 (by decide) (fun h2 => ?_) (fun h2 => ?_)
    · refine lv_iconst (v := 0) C.1 C.2.1 dX10_isOutside_14 (by decide) ?_
      exact ct_z C hr hlocks (Or.inl rfl) (by rw [show outs x a b = false from decide_eq_false (fun q => q.elim h1 (fun q => Int32.not_lt.mpr h2 q))]; rfl) (fun t ht hW => by rw [ht]; exact hP) hS (Nat.le_of_ble_eq_true rfl) (Nat.le_of_ble_eq_true rfl) dX10_isOutside_15
    · refine lv_iconst (v := 1) C.1 C.2.1 dX10_isOutside_10 (by decide) ?_
      refine lv_goto (tgt := 15) C.1 C.2.1 dX10_isOutside_11 (by decide) ?_
      exact ct_z C hr hlocks (Or.inr rfl) (by rw [show outs x a b = true from decide_eq_true (Or.inr (Int32.not_le.mp h2))]; rfl) (fun t ht hW => by rw [ht]; exact hP) hS (Nat.le_of_ble_eq_true rfl) (Nat.le_of_ble_eq_true rfl) dX10_isOutside_15
set_option maxHeartbeats 400000 in
set_option maxRecDepth 100000 in
/-- a vehicle ashore -/
theorem c_X10_add (l : Launch) (D : va_G) (A : Nat → Prop) (P : SwP) (F : Nat → Nat → Int32) (B G : Nat → Int32) (dk : List Nat) (sz : Nat) (ki ma lo sh : Int32) (hlt : l.stackTraces = false) (hI : Inv P (F, B, G, dk)) : Ct l yX10_add (.code yX10_add cX10_add 6 (some .int)) ({ frames := 9, cells := 2, slots := 12, locals := 200 }) A [.ref (pS P), .int ki, .int ma, .int lo, .int sh] (fun U => U.heap.size = sz ∧ Ev A U ∧ Xp D A P F B G dk U) (.inl (some (.int (addV (pn P) ki ma lo sh)))) (Xp D A (addP P sz ki ma lo sh) (addF (pn P) F ki ma lo sh) B G dk) := by
  refine ct_mk (by decide) (Nat.le_of_ble_eq_true rfl) (fun p e s m below meth c ls C hr hlocks hnm htab hP hl => ?_)
  obtain ⟨hsz, hE, hw⟩ := hP
  have hw0 := hw
  have hHs := hsz
  have hS : va_S A s.heap s.heap [] := va_S.rf
  have hl : lv_has ls 6 [(0, .ref (pS P)), (1, .int ki), (2, .int ma), (3, .int lo), (4, .int sh)] := hl
  have hO : Ok P F dk := hI.1
  refine lv_iload_n C.1 C.2.1 dX10_add_0 rfl (lv_at hl 1 rfl) ?_
  refine lv_iconst (v := 0) C.1 C.2.1 dX10_add_1 (by decide) ?_
  refine lv_bipush (v := 8) C.1 C.2.1 dX10_add_2 (by decide) ?_
  refine ct_ret (ct_S C (c_X10_isOutsideZ l sz (ki) (0) (8)) (fun _ _ _ _ h => h) (Or.inl rfl) tb_97 tb_1 ⟨Nat.le_of_ble_eq_true rfl, Nat.le_of_ble_eq_true rfl⟩ tb_95 ⟨by decide, by decide⟩ tb_96 (fun U hU _ => by rw [hU]; exact hHs) (by show _ = some 3; decide +kernel) hl.1 rfl (Nat.le_of_ble_eq_true rfl) dX10_add_4 ⟨Nat.le_of_ble_eq_true rfl, Nat.le_of_ble_eq_true rfl⟩) hS (fun _ h => False.elim h) (fun t H locs ht hvm hHs _ hk hS => ?_)
  rw [ht] at hHs
  have hw := x_kept hw hk
  refine lv_if_ne (tgt := 21) C.1 C.2.1 dX10_add_7 (by decide) (fun h1 => ?_) (fun h1 => ?_)
  · refine lv_bipush (v := -102) C.1 C.2.1 dX10_add_21 (by decide) ?_
    have ha : addO ki ma lo sh = true := by unfold addO; rw [show outs ki 0 8 = true from b2i_1 h1]; simp
    rw [show addV (pn P) ki ma lo sh = -102 from if_pos ha, show addP P sz ki ma lo sh = P from if_pos ha, show addF (pn P) F ki ma lo sh = F from if_pos ha]
    exact ct_i C hr hlocks rfl (fun t ht hW => x_post hw ht hW) hS (Nat.le_of_ble_eq_true rfl) (Nat.le_of_ble_eq_true rfl) dX10_add_23
  · refine lv_iload_n C.1 C.2.1 dX10_add_10 rfl (lv_at hl 2 rfl) ?_
    refine lv_iconst (v := 1) C.1 C.2.1 dX10_add_11 (by decide) ?_
    refine lv_sipush (v := 5000) C.1 C.2.1 dX10_add_12 (by decide) ?_
    refine ct_ret (ct_S C (c_X10_isOutsideZ l sz (ma) (1) (5000)) (fun _ _ _ _ h => h) (Or.inl rfl) tb_97 tb_1 ⟨Nat.le_of_ble_eq_true rfl, Nat.le_of_ble_eq_true rfl⟩ tb_95 ⟨by decide, by decide⟩ tb_96 (fun U hU _ => by rw [hU]; exact hHs) (by show _ = some 3; decide +kernel) hl.1 rfl (Nat.le_of_ble_eq_true rfl) dX10_add_15 ⟨Nat.le_of_ble_eq_true rfl, Nat.le_of_ble_eq_true rfl⟩) hS (fun _ h => False.elim h) (fun t H locs ht hvm hHs _ hk hS => ?_)
    rw [ht] at hHs
    have hw := x_kept hw hk
    refine lv_if_eq (tgt := 24) C.1 C.2.1 dX10_add_18 (by decide) (fun h2 => ?_) (fun h2 => ?_)
    · refine lv_iload_n C.1 C.2.1 dX10_add_24 rfl (lv_at hl 3 rfl) ?_
      refine lv_iconst (v := 0) C.1 C.2.1 dX10_add_25 (by decide) ?_
      refine lv_sipush (v := 5000) C.1 C.2.1 dX10_add_26 (by decide) ?_
      refine ct_ret (ct_S C (c_X10_isOutsideZ l sz (lo) (0) (5000)) (fun _ _ _ _ h => h) (Or.inl rfl) tb_97 tb_1 ⟨Nat.le_of_ble_eq_true rfl, Nat.le_of_ble_eq_true rfl⟩ tb_95 ⟨by decide, by decide⟩ tb_96 (fun U hU _ => by rw [hU]; exact hHs) (by show _ = some 3; decide +kernel) hl.1 rfl (Nat.le_of_ble_eq_true rfl) dX10_add_29 ⟨Nat.le_of_ble_eq_true rfl, Nat.le_of_ble_eq_true rfl⟩) hS (fun _ h => False.elim h) (fun t H locs ht hvm hHs _ hk hS => ?_)
      rw [ht] at hHs
      have hw := x_kept hw hk
      refine lv_if_ne (tgt := 46) C.1 C.2.1 dX10_add_32 (by decide) (fun h3 => ?_) (fun h3 => ?_)
      · refine lv_bipush (v := -102) C.1 C.2.1 dX10_add_46 (by decide) ?_
        have ha : addO ki ma lo sh = true := by unfold addO; rw [show outs lo 0 5000 = true from b2i_1 h3]; simp
        rw [show addV (pn P) ki ma lo sh = -102 from if_pos ha, show addP P sz ki ma lo sh = P from if_pos ha, show addF (pn P) F ki ma lo sh = F from if_pos ha]
        exact ct_i C hr hlocks rfl (fun t ht hW => x_post hw ht hW) hS (Nat.le_of_ble_eq_true rfl) (Nat.le_of_ble_eq_true rfl) dX10_add_48
      · refine lv_iload C.1 C.2.1 dX10_add_35 (lv_at hl 4 rfl) ?_
        refine lv_iconst (v := 0) C.1 C.2.1 dX10_add_37 (by decide) ?_
        refine lv_bipush (v := 100) C.1 C.2.1 dX10_add_38 (by decide) ?_
        refine ct_ret (ct_S C (c_X10_isOutsideZ l sz (sh) (0) (100)) (fun _ _ _ _ h => h) (Or.inl rfl) tb_97 tb_1 ⟨Nat.le_of_ble_eq_true rfl, Nat.le_of_ble_eq_true rfl⟩ tb_95 ⟨by decide, by decide⟩ tb_96 (fun U hU _ => by rw [hU]; exact hHs) (by show _ = some 3; decide +kernel) hl.1 rfl (Nat.le_of_ble_eq_true rfl) dX10_add_40 ⟨Nat.le_of_ble_eq_true rfl, Nat.le_of_ble_eq_true rfl⟩) hS (fun _ h => False.elim h) (fun t H locs ht hvm hHs _ hk hS => ?_)
        rw [ht] at hHs
        have hw := x_kept hw hk
        refine lv_if_eq (tgt := 49) C.1 C.2.1 dX10_add_43 (by decide) (fun h4 => ?_) (fun h4 => ?_)
        · have hao : addO ki ma lo sh = false := by unfold addO; rw [b2i_0 h1, b2i_0 h2, b2i_0 h3, b2i_0 h4]; rfl
          refine lv_aload_n C.1 C.2.1 dX10_add_49 rfl (lv_at hl 0 rfl) ?_
          refine xs_get C hw 2 (by decide) tb_83 rfl dX10_add_50 ?_
          refine lv_istore (lv' := [(5, .int (nI (pn P))), (0, .ref (pS P)), (1, .int (ki)), (2, .int (ma)), (3, .int (lo)), (4, .int (sh))]) C.1 C.2.1 dX10_add_53 hl (by decide) rfl (fun ls hl => ?_)
          refine lv_iload C.1 C.2.1 dX10_add_55 (lv_at hl 0 rfl) ?_
          refine lv_if_lt (tgt := 70) C.1 C.2.1 dX10_add_57 (by decide) (fun h9 => absurd h9 (nI_pos (by have := hO.1; omega))) (fun h9 => ?_)
          refine lv_iload C.1 C.2.1 dX10_add_60 (lv_at hl 0 rfl) ?_
          refine lv_aload_n C.1 C.2.1 dX10_add_62 rfl (lv_at hl 1 rfl) ?_
          refine xs_get C hw 1 (by decide) tb_82 rfl dX10_add_63 ?_
          refine xV_len C hw dX10_add_66 ?_
          refine lv_icmp_lt (tgt := 73) C.1 C.2.1 dX10_add_67 (by decide) (fun h5 => ?_) (fun h5 => ?_)
          · refine lv_aload_n C.1 C.2.1 dX10_add_73 rfl (lv_at hl 1 rfl) ?_
            refine xs_get C hw 1 (by decide) tb_82 rfl dX10_add_74 ?_
            refine lv_iload C.1 C.2.1 dX10_add_77 (lv_at hl 0 rfl) ?_
            refine lv_aload_n C.1 C.2.1 dX10_add_79 rfl (lv_at hl 1 rfl) ?_
            refine lv_iload C.1 C.2.1 dX10_add_80 (lv_at hl 0 rfl) ?_
            refine lv_iload_n C.1 C.2.1 dX10_add_82 rfl (lv_at hl 2 rfl) ?_
            refine lv_iload_n C.1 C.2.1 dX10_add_83 rfl (lv_at hl 3 rfl) ?_
            refine lv_iload_n C.1 C.2.1 dX10_add_84 rfl (lv_at hl 4 rfl) ?_
            refine lv_iload C.1 C.2.1 dX10_add_85 (lv_at hl 5 rfl) ?_
            have hn24 : pn P < 24 := (nI_ltI (by have := hO.1; omega) (by omega)).mp h5
            obtain ⟨k, hk, rfl⟩ := add_k (addO_f hao).1
            rw [show addV (pn P) (nI k) ma lo sh = nI (pn P) from (if_neg (by rw [hao]; decide)).trans (if_neg (by omega)), show addP P sz (nI k) ma lo sh = addP0 P sz k from (if_neg (by rw [hao]; decide)).trans ((if_neg (by omega)).trans (by rw [nI_clamp (by omega)])), show addF (pn P) F (nI k) ma lo sh = addF0 (pn P) F (nI k) ma lo sh from (if_neg (by rw [hao]; decide)).trans (if_neg (by omega))]
            have hzH : H.size = sz := hHs
            refine ct_ret (ct_V0 C (c_X10_make l D A P F B G dk sz k (nI (pn P)) ma lo sh hk) (fun U g mk a h => ⟨h.1, h.2.1.same (U := U.calling g mk a) rfl rfl, Xp_bl U g mk a h.2.2⟩) (Or.inl rfl) tb_101 tb_1 ⟨Nat.le_of_ble_eq_true rfl, Nat.le_of_ble_eq_true rfl⟩ tb_98 ⟨by decide, by decide⟩ tbp_0 tb_100 (x_recvS hw) (fun U hU hW => ⟨by rw [hU]; exact hzH, hE.go hS hU hW, x_post hw hU hW⟩) (sig_code (C.2.2.2.2 _ tb_101)) (by show _ = some 5; decide +kernel) hl.1 rfl (Nat.le_of_ble_eq_true rfl) dX10_add_87 ⟨Nat.le_of_ble_eq_true rfl, Nat.le_of_ble_eq_true rfl⟩) hS (fun _ h => h) (fun t H locs ht hvm hw1 _ _ hS => ?_)
            obtain ⟨hw1, hn1⟩ := hw1
            have hw := x_back hw1 ht hvm
            rw [ht] at hn1
            have hAsz : A sz := hE.1 sz (by rw [hsz]; exact Nat.le_refl _)
            have hDc := hw.2.2.app (w2 := [(sz, (.inr (k, [.ref (pB P), .int (nI (pn P)), .int (nI k), .int ma, .int sh, .int lo, .int 0, .int 0, .int 0, .int 0]) : va_E))]) (vn_D.weaken (fun _ q _ h9 => by rw [h9]; exact hAsz)) (fun a b p q h1 h2 h3 => by
              have e1 := vx_lt hw0.2.1 h1
              have e2 : b < 1 := (List.getElem?_eq_some_iff.mp h2).1
              rw [show b = 0 by omega] at h2
              cases h2
              rw [h3, hsz] at e1
              exact absurd e1 (Nat.lt_irrefl _))
            refine va_astqM (E := RX4) C.1 C.2.1 hw.1 (hw.2.1.app hn1) hDc hS 2 0 rfl rfl (va_rAny hw.1 hn1 (q0 := 0) rfl (sCl_k hk) (hE.2.1 k hk)) (vp_in_nI hn24 (by omega)) dX10_add_90 (fun H locs hP hD hS => ?_)
            rw [nI_clamp (by omega)] at hP hD
            refine lv_aload_n C.1 C.2.1 dX10_add_91 rfl (lv_at hl 1 rfl) ?_
            refine lv_iload C.1 C.2.1 dX10_add_92 (lv_at hl 0 rfl) ?_
            refine lv_iconst (v := 1) C.1 C.2.1 dX10_add_94 (by decide) ?_
            refine lv_iadd C.1 C.2.1 dX10_add_95 ?_
            refine va_put (D := D) (ci := 10) (v := .int (nI (pn P) + 1)) (ty := .int) (C := RX10) (T := TX10) (N := 3) (ref := (TX10 2).1) C.1 C.2.1 C.2.2.2.2 inX10 tyX10 tyX10_ok nmX10 C.2.2.2.1 hw.1 hP hD hS 0 rfl rfl 2 (by decide) (C.2.2.2.2 _ tb_83) (fun x hx => hx) rfl (by decide +kernel) rfl rfl (Nat.le_of_ble_eq_true rfl) dX10_add_96 (fun H locs hP hD hS => ?_)
            have hw2 : XwR D A (addP0 P sz k) (addF0 (pn P) F (nI k) ma lo sh) B G (nI dk.length) (dfd (addP0 P sz k) dk) s H := by
              rw [a_dfd hO.2.2.2.1]
              have e9 := a_ws (P := P) (sz := sz) (k := k) (F := F) (B := B) (G := G) (n := nI dk.length) (fd := dfd P dk) (ki := nI k) (ma := ma) (lo := lo) (sh := sh)
              exact ⟨hw.1, e9 ▸ hP, e9 ▸ hD⟩
            refine lv_iload C.1 C.2.1 dX10_add_99 (lv_at hl 0 rfl) ?_
            exact ct_i C hr hlocks rfl (fun t ht hW => x_post hw2 ht hW) hS (Nat.le_of_ble_eq_true rfl) (Nat.le_of_ble_eq_true rfl) dX10_add_101
          · refine lv_bipush (v := -104) C.1 C.2.1 dX10_add_70 (by decide) ?_
            have h24 : pn P = 24 := by have h9 := hO.1; rcases Nat.lt_or_ge (pn P) 24 with q | q; exact absurd (nI_lt (b := 24) q (by omega)) h5; omega
            rw [show addV (pn P) ki ma lo sh = -104 from (if_neg (by rw [hao]; decide)).trans (if_pos h24), show addP P sz ki ma lo sh = P from (if_neg (by rw [hao]; decide)).trans (if_pos h24), show addF (pn P) F ki ma lo sh = F from (if_neg (by rw [hao]; decide)).trans (if_pos h24)]
            exact ct_i C hr hlocks rfl (fun t ht hW => x_post hw ht hW) hS (Nat.le_of_ble_eq_true rfl) (Nat.le_of_ble_eq_true rfl) dX10_add_72
        · refine lv_bipush (v := -102) C.1 C.2.1 dX10_add_46 (by decide) ?_
          have ha : addO ki ma lo sh = true := by unfold addO; rw [show outs sh 0 100 = true from b2i_1 h4]; simp
          rw [show addV (pn P) ki ma lo sh = -102 from if_pos ha, show addP P sz ki ma lo sh = P from if_pos ha, show addF (pn P) F ki ma lo sh = F from if_pos ha]
          exact ct_i C hr hlocks rfl (fun t ht hW => x_post hw ht hW) hS (Nat.le_of_ble_eq_true rfl) (Nat.le_of_ble_eq_true rfl) dX10_add_48
    · refine lv_bipush (v := -102) C.1 C.2.1 dX10_add_21 (by decide) ?_
      have ha : addO ki ma lo sh = true := by unfold addO; rw [show outs ma 1 5000 = true from b2i_1 h2]; simp
      rw [show addV (pn P) ki ma lo sh = -102 from if_pos ha, show addP P sz ki ma lo sh = P from if_pos ha, show addF (pn P) F ki ma lo sh = F from if_pos ha]
      exact ct_i C hr hlocks rfl (fun t ht hW => x_post hw ht hW) hS (Nat.le_of_ble_eq_true rfl) (Nat.le_of_ble_eq_true rfl) dX10_add_23
