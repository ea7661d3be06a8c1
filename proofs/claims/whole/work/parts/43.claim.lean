/-! THE CLAIM OUT OF ONE WALK OF THE LAW'S BODY. Your part is whole_start (and what it stands on); all else here is the same for every law, but numbers. -/
def R_law : String := "SwingBridgeLaw"
def lw_P (b : Addr) (xs : List Int32) (args : Array Value) (s : State) : Prop := args = #[.ref b] ∧ s.IntsAt b xs ∧ xs.length ≤ 2560 ∧ (Jvm.Cond.and given_1 narrow_1).before args s = true
def lw_Q (_ : Array Value) (s : State) (o : Outcome) (t : State) : Prop := o = .returned (some (.int 1)) ∧ Framed s o t [] 696559 7006426
def lw_Z (below : List Frame) (a : Array Value) (s : State) : State → Prop := fun t => ∃ o, t.status = .running ∧ Ended t below o ∧ lw_Q a s o t
/-- the law's own end, with 1 on the stack, nothing written that was there before, its room as the claim has it -/
theorem lw_ret {p : Program} {l : Launch} {e : Env} {s : State} {m : MethodId} {below : List Frame} {meth : Method} {c : Code} {b : Nat} (hx : p.tables.exec = Jvm.exec) (hb : c.code = code) (hr : meth.sig.returnType = ret) (hlocks : meth.locks = false) {pc : Nat} {H : Heap} {ls : Array Slot} (hdg : decode code pc = .ok (.ireturn, 1)) : W p l e room_1 s m #[Value.ref b] below meth c H [] 696559 7006426 (lw_Z below #[Value.ref b] s) (F0 m pc ls [.int 1]) := by
  intro T hT X
  obtain ⟨fs, hret, hrun, hended, hW, hframe⟩ := X.leave (v := some (.int 1)) (hlocks := hlocks) (fun h => by rw [hr] at h; cases h)
  have hmeth' : T.vm.method? m = some meth := X.method'
  refine ⟨T.setFrames fs, ?_, .returned (some (.int 1)), hrun, hended, rfl, ⟨_, rfl⟩, hW, hframe⟩
  jvm_step X.here [X.here.top, hx, hb, hdg, hmeth', hr, ret, narrow_b1]
  (try refine ⟨rfl, ?_⟩); (try refine ⟨rfl, ?_⟩)
  first | (intro acts; rw [hret _ acts rfl rfl rfl]) | rw [hret _ _ rfl rfl rfl]
  exact Steps.refl _
/-- what holds at the law's entry: the machine, the code, the tables' words (any of lw_tbl by 'hts w (by decide +kernel)'), the script of L ints xs at the cell b, what the Statement gives of the start (any of its parts by flat_of_before) -/
def lw_At (p : Program) (s : State) (m : MethodId) (meth : Method) (c : Code) (b L : Nat) (xs : Nat → Int32) : Prop :=
  p.tables.exec = Jvm.exec ∧ c.code = code ∧ meth.sig.returnType = ret ∧ c.maxLocals = 7 ∧ s.vm.findClass R_law = some m.cls ∧ (∀ w ∈ lw_tbl, w.before #[Value.ref b] s = true) ∧ va_X b L xs s s.heap ∧ b < s.heap.size ∧ meth.locks = false ∧ (Jvm.Cond.and given_1 narrow_1).before #[Value.ref b] s = true
/-! WHAT THE START GIVES: words that no call keeps by itself -/
theorem tn_34 : Cond.arrayOver (.object RX4) ∈ lw_tbl := List.mem_of_getElem? (i := 49) (by decide +kernel)
theorem tn_494 : Cond.castable AE AE ∈ lw_tbl := List.mem_of_getElem? (i := 509) (by decide +kernel)
theorem tn_643 : Cond.castable ISE ISE ∈ lw_tbl := List.mem_of_getElem? (i := 658) (by decide +kernel)
theorem tn_496 : dcR ∈ lw_tbl := List.mem_of_getElem? (i := 511) (by decide +kernel)
theorem tn_498 : dcE ∈ lw_tbl := List.mem_of_getElem? (i := 513) (by decide +kernel)
theorem tn_500 : dcT ∈ lw_tbl := List.mem_of_getElem? (i := 515) (by decide +kernel)
theorem tn_519 : Cond.laysStatic Bundle.tN "UNASSIGNED_STACK" Bundle.steD ∈ lw_tbl := List.mem_of_getElem? (i := 534) (by decide +kernel)
theorem tn_521 : Cond.laysStatic Bundle.tN "SUPPRESSED_SENTINEL" Bundle.listD ∈ lw_tbl := List.mem_of_getElem? (i := 536) (by decide +kernel)
theorem tn_650 : Cond.stringRef RX4 73 "stopped" ∈ lw_tbl := List.mem_of_getElem? (i := 665) (by decide +kernel)
theorem tn_532 : Cond.stringRef RX5 30 "no load to divide by" ∈ lw_tbl := List.mem_of_getElem? (i := 547) (by decide +kernel)
theorem tn_890 : Cond.castable RX1 RX4 ∈ lw_tbl := List.mem_of_getElem? (i := 905) (by decide +kernel)
theorem tn_891 : Cond.castable RX2 RX4 ∈ lw_tbl := List.mem_of_getElem? (i := 906) (by decide +kernel)
theorem tn_892 : Cond.castable RX3 RX4 ∈ lw_tbl := List.mem_of_getElem? (i := 907) (by decide +kernel)
theorem tn_893 : Cond.castable RX5 RX4 ∈ lw_tbl := List.mem_of_getElem? (i := 908) (by decide +kernel)
theorem tn_894 : Cond.castable RX6 RX4 ∈ lw_tbl := List.mem_of_getElem? (i := 909) (by decide +kernel)
theorem tn_895 : Cond.castable RX7 RX4 ∈ lw_tbl := List.mem_of_getElem? (i := 910) (by decide +kernel)
theorem tn_896 : Cond.castable RX8 RX4 ∈ lw_tbl := List.mem_of_getElem? (i := 911) (by decide +kernel)
theorem tn_897 : Cond.castable RX9 RX4 ∈ lw_tbl := List.mem_of_getElem? (i := 912) (by decide +kernel)
set_option maxRecDepth 100000 in
theorem lw_Ev {s : State} {b : Nat} (hts : ∀ w ∈ lw_tbl, w.before #[Value.ref b] s = true) (hgv : (Jvm.Cond.and given_1 narrow_1).before #[Value.ref b] s = true) : Ev (fun a : Nat => s.heap.size ≤ a) s := by
  have hs := flat_of_before _ hgv
  have hA : ∀ a : Nat, a < s.heap.size → ¬ (fun a : Nat => s.heap.size ≤ a) a := fun a h => Nat.not_le.mpr h
  refine ⟨fun _ h => h, ?_, ⟨va_Nw.of rfl (hts _ tn_643), va_Nw.of rfl (hts _ tn_494), va_Nc.of (hs (.not (.castable AE ISE)) (by decide +kernel))⟩, ⟨va_Nw.of rfl (hts _ tn_496), va_Nw.of rfl (hts _ tn_498), va_Nw.of rfl (hts _ tn_500)⟩, ⟨vx_Zqof (hts _ tn_519) (hts _ (wB_tbl _ tb_13)) (hs (.isRef (.static Bundle.tN "UNASSIGNED_STACK" Bundle.steD)) (by decide +kernel)) hA, vx_Zqof (hts _ tn_521) (hts _ (wB_tbl _ tb_13)) (hs (.isRef (.static Bundle.tN "SUPPRESSED_SENTINEL" Bundle.listD)) (by decide +kernel)) hA⟩, ?_⟩
  · intro k hk comp c0 h1 h2
    match k, hk with
    | 0, _ => exact vb_asgS comp c0 h1 h2
    | 1, _ => exact vb_asgC (C := RX9) (va_Nw.of rfl (hts _ tn_897)) comp c0 h1 h2
    | 2, _ => exact vb_asgC (C := RX3) (va_Nw.of rfl (hts _ tn_892)) comp c0 h1 h2
    | 3, _ => exact vb_asgC (C := RX2) (va_Nw.of rfl (hts _ tn_891)) comp c0 h1 h2
    | 4, _ => exact vb_asgC (C := RX7) (va_Nw.of rfl (hts _ tn_895)) comp c0 h1 h2
    | 5, _ => exact vb_asgC (C := RX8) (va_Nw.of rfl (hts _ tn_896)) comp c0 h1 h2
    | 6, _ => exact vb_asgC (C := RX1) (va_Nw.of rfl (hts _ tn_890)) comp c0 h1 h2
    | 7, _ => exact vb_asgC (C := RX6) (va_Nw.of rfl (hts _ tn_894)) comp c0 h1 h2
    | 8, _ => exact vb_asgC (C := RX5) (va_Nw.of rfl (hts _ tn_893)) comp c0 h1 h2
    | k + 9, h => exact absurd h (by omega)
  · obtain ⟨sa, -, -, -, qa, -⟩ := Cond.exactly_spec (hs (.exactly (.string RX4 73) "java/lang/String") (by decide +kernel))
    obtain ⟨sb, -, -, -, qb, -⟩ := Cond.exactly_spec (hs (.exactly (.string RX5 30) "java/lang/String") (by decide +kernel))
    exact ⟨sa, sb, vk_R.of (hts _ tn_650) qa, vk_R.of (hts _ tn_532) qb⟩
theorem lw_K {s : State} {args : Array Value} (hts : ∀ w ∈ wB, w.before args s = true) : ∃ D : va_G, va_K D sCl [] s := by
  have key : ∀ {CN : String} {T : u_T} {N : Nat}, (∀ w ∈ u_ws CN T N, w ∈ wB) → Cond.instantiable CN N ∈ wB → ∃ z : ClassId × (Nat → Nat), u_Kn s CN T N z.1 z.2 := fun {CN T N} hin h => by
    obtain ⟨c, i, h9⟩ := u_known (n := N) hts hin (hts _ h)
    exact ⟨(c, i), h9⟩
  have h0 : ∀ k : Nat, ∃ z : ClassId × (Nat → Nat), ∀ q : vw_C, sCl[k]? = some q → u_Kn s q.1 q.2.1 q.2.2 z.1 z.2 := by
    intro k
    match k with
    | 0 =>
      obtain ⟨z, hz⟩ := key inX4 tb_296
      exact ⟨z, fun q hq => by cases hq; exact hz⟩
    | 1 =>
      obtain ⟨z, hz⟩ := key inX9 tb_103
      exact ⟨z, fun q hq => by cases hq; exact hz⟩
    | 2 =>
      obtain ⟨z, hz⟩ := key inX3 tb_178
      exact ⟨z, fun q hq => by cases hq; exact hz⟩
    | 3 =>
      obtain ⟨z, hz⟩ := key inX2 tb_195
      exact ⟨z, fun q hq => by cases hq; exact hz⟩
    | 4 =>
      obtain ⟨z, hz⟩ := key inX7 tb_212
      exact ⟨z, fun q hq => by cases hq; exact hz⟩
    | 5 =>
      obtain ⟨z, hz⟩ := key inX8 tb_229
      exact ⟨z, fun q hq => by cases hq; exact hz⟩
    | 6 =>
      obtain ⟨z, hz⟩ := key inX1 tb_246
      exact ⟨z, fun q hq => by cases hq; exact hz⟩
    | 7 =>
      obtain ⟨z, hz⟩ := key inX6 tb_263
      exact ⟨z, fun q hq => by cases hq; exact hz⟩
    | 8 =>
      obtain ⟨z, hz⟩ := key inX5 tb_280
      exact ⟨z, fun q hq => by cases hq; exact hz⟩
    | 9 =>
      obtain ⟨z, hz⟩ := key inX0 tb_28
      exact ⟨z, fun q hq => by cases hq; exact hz⟩
    | 10 =>
      obtain ⟨z, hz⟩ := key inX10 tb_20
      exact ⟨z, fun q hq => by cases hq; exact hz⟩
    | 11 =>
      obtain ⟨z, hz⟩ := key inX11 tb_703
      exact ⟨z, fun q hq => by cases hq; exact hz⟩
    | k + 12 => exact ⟨(0, fun _ => 0), fun q hq => by simp at hq⟩
  obtain ⟨f, hf⟩ := Classical.axiomOfChoice h0
  exact ⟨(fun k => (f k).1, fun k => (f k).2), fun k q hq => hf k q hq, fun k q h => by simp at h⟩
theorem law_gt {L i : Nat} (hL : L ≤ 2560) (hi : i ≤ 2560) : nI L - 5 < nI i ↔ ¬ (i + 5 ≤ L) := by
  rw [Int32.lt_iff_toInt_lt, show (5 : Int32) = nI 5 from rfl, pk_sub_toInt (by omega) (by omega), nI_toInt (by omega)]
  omega
set_option maxHeartbeats 400000 in
set_option maxRecDepth 100000 in
theorem law_head {p : Program} {l : Launch} {e : Env} {s : State} {m : MethodId} {below : List Frame} {meth : Method} {c : Code} {b L : Nat} {xs : Nat → Int32} {D : va_G} {Ax Am : Nat → Prop} {qs : Nat → Nat} {cI cL qo M2 : Nat} (hc : Lc p l s m c b L xs qo M2 Ax Am) (hr : meth.sig.returnType = ret) (hlocks : meth.locks = false) {i : Nat} {H : Heap} {locs : List Loc} {cells slots : Nat} {ls : Array Slot} (h : LawS s b D Ax Am qs cI cL qo M2 i H locs ls) (hi : i ≤ 2560) (hce : cells ≤ 696559) (hsl : slots ≤ 7006426) (kk : i + 5 ≤ L → W p l e room_1 s m #[Value.ref b] below meth c H locs cells slots (lw_Z below #[Value.ref b] s) (F0 m 32 ls [])) : W p l e room_1 s m #[Value.ref b] below meth c H locs cells slots (lw_Z below #[Value.ref b] s) (F0 m 23 ls []) := by
  obtain ⟨C, hlt, hX, hbl, hE, hf, hL⟩ := hc
  obtain ⟨P, F, B, G, dk, thr, v, hI, hw, hS, hl⟩ := h
  refine lv_iload C.1 C.2.1 dL_law_23 (lv_at hl 0 rfl) ?_
  refine lv_aload_n C.1 C.2.1 dL_law_25 rfl (lv_at hl 4 rfl) ?_
  refine va_slen C.1 C.2.1 hX hbl (Nat.not_le.mpr hbl) hS dL_law_26 ?_
  refine lv_iconst (v := 5) C.1 C.2.1 dL_law_27 (by decide) ?_
  refine lv_isub C.1 C.2.1 dL_law_28 ?_
  refine lv_icmp_gt (tgt := 684) C.1 C.2.1 dL_law_29 (by decide) (fun h1 => ?_) (fun h1 => kk ?_)
  · refine lv_iconst (v := 1) C.1 C.2.1 dL_law_684 (by decide) ?_
    refine va_forget (fun q hq => hS.2.2 q hq) ?_
    refine W.widen (k := 696559) (n := 7006426) hce hsl ?_
    exact lw_ret C.1 C.2.1 hr hlocks dL_law_685
  · exact Decidable.not_not.mp (fun z => h1 ((law_gt hL hi).mpr z))
set_option maxHeartbeats 400000 in
set_option maxRecDepth 100000 in
theorem law_loop {p : Program} {l : Launch} {e : Env} {s : State} {m : MethodId} {below : List Frame} {meth : Method} {c : Code} {b L : Nat} {xs : Nat → Int32} {D : va_G} {Ax Am : Nat → Prop} {qs : Nat → Nat} {cI cL qo M2 : Nat} (hc : Lc p l s m c b L xs qo M2 Ax Am) (hr : meth.sig.returnType = ret) (hlocks : meth.locks = false) : ∀ (k j : Nat), j + k = 512 → ∀ (H : Heap) (locs : List Loc) (cells slots : Nat) (ls : Array Slot), LawS s b D Ax Am qs cI cL qo M2 (5 * j) H locs ls → cells + 48 * k ≤ 696559 → slots + 288 * k ≤ 7006426 → W p l e room_1 s m #[Value.ref b] below meth c H locs cells slots (lw_Z below #[Value.ref b] s) (F0 m 23 ls []) := by
  intro k
  induction k with
  | zero =>
    intro j hj H locs cells slots ls h hce hsl
    exact law_head hc hr hlocks h (by omega) (by omega) (by omega) (fun h5 => absurd hc.2.2.2.2.2.2 (by omega))
  | succ k ih =>
    intro j hj H locs cells slots ls h hce hsl
    refine law_head hc hr hlocks h (by omega) (by omega) (by omega) (fun h5 => ?_)
    have nxt : ∀ (H' : Heap) (locs' : List Loc) (cells' slots' : Nat) (ls' : Array Slot), LawS s b D Ax Am qs cI cL qo M2 (5 * j) H' locs' ls' → cells' ≤ cells + 48 → slots' ≤ slots + 288 → W p l e room_1 s m #[Value.ref b] below meth c H' locs' cells' slots' (lw_Z below #[Value.ref b] s) (F0 m 678 ls' []) := by
      intro H' locs' cells' slots' ls' h' hc1 hs1
      have C := hc.1
      obtain ⟨P, F, B, G, dk, thr, v, hI, hw, hS, hl⟩ := h'
      obtain ⟨x1, ex1⟩ : ∃ z : Int32, z = nI (5 * j) + 5 := ⟨_, rfl⟩
      refine lv_iinc (v := x1) (lv' := [(4, .int x1), (3, .ref qo), (2, .ref (qs 0)), (1, .ref (pS P)), (0, .ref b)]) C.1 C.2.1 dL_law_678 hl (k := 0) rfl (by rw [ex1]; rfl) (by decide) rfl (fun ls hl => ?_)
      rw [show x1 = nI (5 * (j + 1)) by rw [ex1]; exact nI_add (5 * j) 5] at hl
      refine lv_goto (tgt := 23) C.1 C.2.1 dL_law_681 (by decide) ?_
      exact ih (j + 1) (by omega) H' locs' cells' slots' ls ⟨P, F, B, G, dk, thr, v, hI, hw, hS, hl⟩ (by omega) (by omega)
    have h0 := h
    obtain ⟨C, hlt, hX, hbl, hE, hf, hL⟩ := id hc
    obtain ⟨P, F, B, G, dk, thr, v, hI, hw, hS, hl⟩ := h
    refine lv_aload_n C.1 C.2.1 dL_law_32 rfl (lv_at hl 4 rfl) ?_
    refine lv_iload C.1 C.2.1 dL_law_33 (lv_at hl 0 rfl) ?_
    refine va_sld C.1 C.2.1 hX hbl (Nat.not_le.mpr hbl) hS (vp_in_nI (show 5 * j < L by omega) (by omega)) dL_law_35 ?_
    refine lv_bipush (v := 15) C.1 C.2.1 dL_law_36 (by decide) ?_
    refine lv_iand C.1 C.2.1 dL_law_38 ?_
    obtain ⟨w, hw16, ew⟩ := pk_andE (xs (nI (5 * j)).toNatClampNeg) (m := 15) 4 (by decide)
    rw [ew]
    rcases (show w = 0 ∨ w = 1 ∨ w = 2 ∨ w = 3 ∨ w = 4 ∨ w = 5 ∨ w = 6 ∨ w = 7 ∨ w = 8 ∨ w = 9 ∨ w = 10 ∨ w = 11 ∨ w = 12 ∨ w = 13 ∨ w = 14 ∨ w = 15 by omega) with rfl | rfl | rfl | rfl | rfl | rfl | rfl | rfl | rfl | rfl | rfl | rfl | rfl | rfl | rfl | rfl
    · refine lv_tableIn (tgt := 116) C.1 C.2.1 dL_law_39 (by decide) (by decide) rfl (by decide) ?_
      exact law_0 hc h0 h5 (by omega) (by omega) nxt
    · refine lv_tableIn (tgt := 177) C.1 C.2.1 dL_law_39 (by decide) (by decide) rfl (by decide) ?_
      exact law_1 hc h0 h5 (by omega) (by omega) nxt
    · refine lv_tableIn (tgt := 202) C.1 C.2.1 dL_law_39 (by decide) (by decide) rfl (by decide) ?_
      exact law_2 hc h0 h5 (by omega) (by omega) nxt
    · refine lv_tableIn (tgt := 270) C.1 C.2.1 dL_law_39 (by decide) (by decide) rfl (by decide) ?_
      exact law_3 hc h0 h5 (by omega) (by omega) nxt
    · refine lv_tableIn (tgt := 295) C.1 C.2.1 dL_law_39 (by decide) (by decide) rfl (by decide) ?_
      exact law_4 hc h0 h5 (by omega) (by omega) nxt
    · refine lv_tableIn (tgt := 363) C.1 C.2.1 dL_law_39 (by decide) (by decide) rfl (by decide) ?_
      exact law_5 hc h0 h5 (by omega) (by omega) nxt
    · refine lv_tableIn (tgt := 388) C.1 C.2.1 dL_law_39 (by decide) (by decide) rfl (by decide) ?_
      exact law_6 hc h0 h5 (by omega) (by omega) nxt
    · refine lv_tableIn (tgt := 413) C.1 C.2.1 dL_law_39 (by decide) (by decide) rfl (by decide) ?_
      exact law_7 hc h0 h5 (by omega) (by omega) nxt
    · refine lv_tableIn (tgt := 450) C.1 C.2.1 dL_law_39 (by decide) (by decide) rfl (by decide) ?_
      exact law_8 hc h0 h5 (by omega) (by omega) nxt
    · refine lv_tableIn (tgt := 487) C.1 C.2.1 dL_law_39 (by decide) (by decide) rfl (by decide) ?_
      exact law_9 hc h0 h5 (by omega) (by omega) nxt
    · refine lv_tableIn (tgt := 528) C.1 C.2.1 dL_law_39 (by decide) (by decide) rfl (by decide) ?_
      exact law_10 hc h0 h5 (by omega) (by omega) nxt
    · refine lv_tableIn (tgt := 553) C.1 C.2.1 dL_law_39 (by decide) (by decide) rfl (by decide) ?_
      exact law_11 hc h0 h5 (by omega) (by omega) nxt
    · refine lv_tableIn (tgt := 566) C.1 C.2.1 dL_law_39 (by decide) (by decide) rfl (by decide) ?_
      exact law_12 hc h0 h5 (by omega) (by omega) nxt
    · refine lv_tableIn (tgt := 603) C.1 C.2.1 dL_law_39 (by decide) (by decide) rfl (by decide) ?_
      exact law_13 hc h0 h5 (by omega) (by omega) nxt
    · refine lv_tableIn (tgt := 628) C.1 C.2.1 dL_law_39 (by decide) (by decide) rfl (by decide) ?_
      exact law_14 hc h0 h5 (by omega) (by omega) nxt
    · refine lv_tableIn (tgt := 653) C.1 C.2.1 dL_law_39 (by decide) (by decide) rfl (by decide) ?_
      exact law_15 hc h0 h5 (by omega) (by omega) nxt
-- ===== YOUR PART BEGINS =====
set_option maxHeartbeats 400000 in
set_option maxRecDepth 100000 in
/-- YOUR PART: from the entry, for every script of at most 2560 ints, the law comes to its end with true -/
theorem whole_start {p : Program} {e : Env} {s : State} {m : MethodId} {below : List Frame} {meth : Method} {c : Code} (l : Launch) (hlt : l.stackTraces = false) {b L : Nat} {xs : Nat → Int32} (hL : L ≤ 2560) (C0 : lw_At p s m meth c b L xs) : W p l e room_1 s m #[Value.ref b] below meth c s.heap [] 0 0 (lw_Z below #[Value.ref b] s) (entryFrame m ([Value.ref b] : List Value).toArray 7) := by
  obtain ⟨hx, hb, hr, hml, hown, hts, hX, hbl, hlocks, hgv⟩ := id C0
  have C : CallFix p m c code 7 s #[Value.ref b] wB RL := ⟨hx, hb, hml, hown, fun w h => hts w (wB_tbl w h)⟩
  have hE := lw_Ev hts hgv
  have hAO : va_AO RX4 s := va_AO.of (hts _ tn_34)
  obtain ⟨D, hK⟩ := lw_K C.2.2.2.2
  have hS : va_S (fun a : Nat => s.heap.size ≤ a) s.heap s.heap [] := va_S.rf
  have hl := lv_entry ([.ref b]) (n := 7) (Nat.le_of_ble_eq_true rfl)
  rw [lg_entry_eq]
  generalize (lg_sl ([.ref b]) ++ List.replicate (7 - (lg_sl ([.ref b])).length) Slot.unset).toArray = ls at hl ⊢
  have hl : lv_has ls 7 [(0, .ref b)] := hl
  refine x_new (ci := 10) (fs := [.null, .null, .int 0]) C tyX10 tyX10_ok inX10 rfl hK tb_19 tb_20 tb_1 (fun j hj => by rcases (show j = 0 ∨ j = 1 ∨ j = 2 by omega) with rfl | rfl | rfl <;> rfl) (Nat.le_of_ble_eq_true rfl) (Nat.le_of_ble_eq_true rfl) dL_law_0 (fun H1 z1 o1 hn => ?_)
  have hS := S_new hS z1 o1
  refine lv_dup C.1 C.2.1 dL_law_3 rfl ?_
  refine ct_ret (ct_I C (c_X10_init l D s.heap.size H1.size) Nw0_bl tb_23 tb_1 ⟨Nat.le_of_ble_eq_true rfl, Nat.le_of_ble_eq_true rfl⟩ tb_21 rfl ⟨by decide, by decide⟩ tb_22 (fun U hU hW => ⟨by rw [hU], va_AO.moved hW.alike hAO, va_K.moved hW.alike hK, by rw [hU]; exact hn⟩) (by show _ = some 0; decide +kernel) hl.1 rfl (Nat.le_of_ble_eq_true rfl) dL_law_4 ⟨Nat.le_of_ble_eq_true rfl, Nat.le_of_ble_eq_true rfl⟩) hS (fun a h => by rcases h with h | h <;> omega) (fun t H2 locs2 ht hvm hp hz hk hS => ?_)
  obtain ⟨P, hPS, hPn, hw⟩ := hp
  have hw := x_back hw ht hvm
  refine lv_astore_n (lv' := [(1, .ref s.heap.size), (0, .ref b)]) C.1 C.2.1 dL_law_7 rfl hl (by decide) rfl (fun ls hl => ?_)
  have hZ1 : s.heap.size ≤ H2.size := hS.1
  have hwD : ∀ (k : Nat) (y : Nat × va_E), (xws P zF zB zG (nI ([] : List Nat).length) (dfd P []))[k]? = some y → s.heap.size ≤ y.1 ∧ y.1 < H2.size := fun k y hy => ⟨by have h9 := hw.2.2.2 k y hy; rcases h9 with h9 | h9 <;> omega, vx_lt hw.2.1 hy⟩
  clear hn hk hz z1 o1 ht hvm
  refine x_new (ci := 11) (fs := [.int 0, .int 0, .null, .null, .null, .null, .null, .null, .null, .null, .null, .int 0, .null, .int 0, .int 0, .int 0, .int 0, .int 0]) C tyX11 tyX11_ok inX11 rfl hK tb_702 tb_703 tb_3 (fun j hj => by rcases (show j = 0 ∨ j = 1 ∨ j = 2 ∨ j = 3 ∨ j = 4 ∨ j = 5 ∨ j = 6 ∨ j = 7 ∨ j = 8 ∨ j = 9 ∨ j = 10 ∨ j = 11 ∨ j = 12 ∨ j = 13 ∨ j = 14 ∨ j = 15 ∨ j = 16 ∨ j = 17 by omega) with rfl | rfl | rfl | rfl | rfl | rfl | rfl | rfl | rfl | rfl | rfl | rfl | rfl | rfl | rfl | rfl | rfl | rfl <;> rfl) (Nat.le_of_ble_eq_true rfl) (Nat.le_of_ble_eq_true rfl) dL_law_8 (fun H3 z3 o3 hn => ?_)
  have hS := S_new hS z3 o3
  refine lv_dup C.1 C.2.1 dL_law_11 rfl ?_
  refine ct_ret (ct_I C (c_X11_init l D H2.size H3.size) Nw0_bl tb_706 tb_3 ⟨Nat.le_of_ble_eq_true rfl, Nat.le_of_ble_eq_true rfl⟩ tb_704 rfl ⟨by decide, by decide⟩ tb_705 (fun U hU hW => ⟨by rw [hU], va_AO.moved hW.alike hAO, va_K.moved hW.alike hK, by rw [hU]; exact hn⟩) (by show _ = some 0; decide +kernel) hl.1 rfl (Nat.le_of_ble_eq_true rfl) dL_law_12 ⟨Nat.le_of_ble_eq_true rfl, Nat.le_of_ble_eq_true rfl⟩) hS (fun a h => by rcases h with h | h <;> (show s.heap.size ≤ a; omega)) (fun t H4 locs4 ht hvm hp hz hk hS => ?_)
  obtain ⟨qs, cI, hq0, hm⟩ := hp
  have hm := Mw.back hm ht hvm
  have hw : XwR D (nwA s.heap.size H1.size) P zF zB zG (nI ([] : List Nat).length) (dfd P []) s H4 := ⟨hw.1, hw.2.1.kept (fun k y hy => (hk y.1 (by have := hwD k y hy; omega) (fun z => by have := hwD k y hy; rcases z with z | z <;> omega)).trans (o3 y.1 (hwD k y hy).2)), hw.2.2⟩
  refine lv_astore_n (lv' := [(2, .ref H2.size), (1, .ref s.heap.size), (0, .ref b)]) C.1 C.2.1 dL_law_15 rfl hl (by decide) rfl (fun ls hl => ?_)
  refine lv_iconst (v := 1) C.1 C.2.1 dL_law_16 (by decide) ?_
  refine va_newaK (atype := .long) (N := 1) C.1 C.2.1 (C.2.2.2.2 _ tb_885) rfl dL_law_17 rfl (by decide) (by decide) (by decide) (Nat.le_of_ble_eq_true rfl) (Nat.le_of_ble_eq_true rfl) rfl (fun H5 cL e5 z5 o5 hAr hNm => ?_)
  refine W.eq (g2 := F0 m 19 ls [.ref H4.size]) rfl ?_
  have hS : va_S (fun a : Nat => s.heap.size ≤ a) s.heap H5 locs4 := S_new hS z5 o5
  refine lv_astore_n (lv' := [(3, .ref H4.size), (2, .ref H2.size), (1, .ref s.heap.size), (0, .ref b)]) C.1 C.2.1 dL_law_19 rfl hl (by decide) rfl (fun ls hl => ?_)
  refine lv_iconst (v := 0) C.1 C.2.1 dL_law_20 (by decide) ?_
  refine lv_istore (lv' := [(4, .int 0), (3, .ref H4.size), (2, .ref H2.size), (1, .ref s.heap.size), (0, .ref b)]) C.1 C.2.1 dL_law_21 hl (by decide) rfl (fun ls hl => ?_)
  have hw : XwR D (fun a => s.heap.size ≤ a ∧ (a < H2.size ∨ H5.size ≤ a)) P zF zB zG (nI ([] : List Nat).length) (dfd P []) s H5 := ⟨hw.1, hw.2.1.kept (fun k y hy => o5 y.1 (vx_lt hw.2.1 hy)), hw.2.2.weaken (fun k y hy _ => ⟨(hwD k y hy).1, Or.inl (hwD k y hy).2⟩)⟩
  have hm : Mw D (fun a => H2.size ≤ a ∧ a < H4.size) qs cI (pn P) zF zB zG [] 0 s H5 := by
    obtain ⟨r, dv, h1, h2⟩ := hm
    rw [hPn]
    exact ⟨r, dv, h1, h2.1, h2.2.1.kept (fun k y hy => o5 y.1 (vx_lt h2.2.1 hy)), h2.2.2.weaken (fun k y hy h9 => ⟨by rcases h9 with h9 | h9 <;> omega, vx_lt h2.2.1 hy⟩)⟩
  have ho : Ow D cL H4.size (fun _ => 0) s H5 := ⟨⟨hK.1, fun k y hy => by
    have e1 : k < 1 := (List.getElem?_eq_some_iff.mp hy).1
    rw [show k = 0 by omega] at hy
    cases hy
    exact ⟨hAr, hNm⟩⟩, fun k y hy => by
    have e1 : k < 1 := (List.getElem?_eq_some_iff.mp hy).1
    rw [show k = 0 by omega] at hy
    cases hy
    exact e5⟩
  have hf : Fx s H5.size H4.size (fun a => s.heap.size ≤ a ∧ (a < H2.size ∨ H5.size ≤ a)) (fun a => H2.size ≤ a ∧ a < H4.size) := ⟨fun a h => h.1, fun a h => Nat.le_trans hZ1 h.1, fun a h z => by omega, fun z => by omega, fun z => by omega, fun a h => ⟨by omega, Or.inr h⟩, by omega⟩
  exact law_loop (D := D) (qs := qs) (cI := cI) (cL := cL) ⟨C, hlt, hX, hbl, hE, hf, hL⟩ hr hlocks 512 0 rfl H5 locs4 _ _ ls ⟨P, zF, zB, zG, [], 0, fun _ => 0, inv_0 hPn, ⟨hw, hm, ho, Nat.le_refl _⟩, hS, by rw [hPS, hq0]; exact hl⟩ (Nat.le_of_ble_eq_true rfl) (Nat.le_of_ble_eq_true rfl)
-- ===== YOUR PART ENDS =====
set_option maxHeartbeats 4000000 in
theorem lw_walk (l : Launch) (hlt : l.stackTraces = false) (b : Addr) (xs : List Int32) : MetFree l x (headSpec (Jvm.Cond.code x code maxLocals ret :: tables_1) room_1) (lw_P b xs) (fun _ _ _ _ _ => True) lw_Q := by
  refine MetFree.of_bodyS (code := code) (maxLocals := maxLocals) (ret := ret) (by decide) ?_ ?_
  · intro args s m h hn
    obtain ⟨meth, c, h1, h2, h3, h4, h5, h6, -, -⟩ := Cond.code_spec hn (atoms_spec (ws := Jvm.Cond.code x code maxLocals ret :: tables_1) h _ List.mem_cons_self)
    exact ⟨meth, c, h1, h2, h3, h4, h5, h6⟩
  · intro p e s m args below meth c s₁ B hml0 hP _
    obtain ⟨rfl, hx, hbd, hgv⟩ := hP
    obtain ⟨scr, harrAt, hlist, hof, hsmall⟩ := hx
    obtain ⟨hcb, hkn, -, -⟩ := State.arrayAt?_spec harrAt
    have hown : s.vm.findClass R_law = some m.cls := findClass_of_methodNamed B.named
    have hts0 : ∀ c ∈ (Jvm.Cond.code x code maxLocals ret :: tables_1), c.before #[Value.ref b] s = true := atoms_spec (ws := Jvm.Cond.code x code maxLocals ret :: tables_1) B.pre
    have hts : ∀ w ∈ lw_tbl, w.before #[Value.ref b] s = true := k2_hts_sels lw_privs (fun w hw => hts0 w (List.mem_cons_of_mem _ hw)) lw_privs_ok
    have hml : c.maxLocals = 7 := B.maxLocals_eq (hts0 _ List.mem_cons_self)
    have X₀ : Stand p l e room_1 s m #[Value.ref b] below meth c s₁ [] 0 0 := Stand.of_body B
    have hh0 : s₁.heap = s.heap := by rw [B.state]; rfl
    have hsz : scr.slots.size = xs.length := by rw [← Array.length_toList, hlist, List.length_map]
    have hval : ∀ j : Nat, j < xs.length → scr.slots[j]? = some (.int (xs.getD j 0)) := fun j hj => by
      rw [← Array.getElem?_toList, hlist]
      simp [hj]
    have hbl : b < s.heap.size := (Array.getElem?_eq_some_iff.mp hcb).1
    have hX : va_X b xs.length (fun j => xs.getD j 0) s s.heap := ⟨scr, hcb, hof, hkn, hsz, hval⟩
    have K : W p l e room_1 s m #[Value.ref b] below meth c s₁.heap [] 0 0 (lw_Z below #[Value.ref b] s) (entryFrame m ([Value.ref b] : List Value).toArray 7) := by
      rw [hh0]
      exact whole_start l hlt hbd ⟨B.exec, B.bytes, B.returns, hml, hown, hts, hX, hbl, B.notSynchronized, hgv⟩
    obtain ⟨t, a1, o, b1, b2, b3⟩ := K s₁ rfl X₀
    exact ⟨t, o, a1, b1, b2, b3⟩
theorem lw_pre_spec {args : Array Value} {s : State} (h : (Jvm.Cond.and given_1 narrow_1).before args s = true) (hr : rest_1_c.before args s = true) : ∃ (b : Addr) (xs : List Int32), lw_P b xs args s := by
  have hs := flat_of_before _ h
  have hq := flat_of_before _ hr
  have hc : (Cond.count 1).before args s = true := hs _ (by decide +kernel)
  have harr : (Cond.arrayOf (.arg 0) .int).before args s = true := hs _ (by decide +kernel)
  have hle : (Cond.le (.length (.arg 0)) (.int 2560)).before args s = true := hs _ (by decide +kernel)
  have hlen : (Cond.isInt (.length (.arg 0))).before args s = true := hq _ (by decide +kernel)
  have hall : (Cond.all (.arg 0) (.isInt (.elem (.arg 0) (.index 0)))).before args s = true := hq _ (by decide +kernel)
  obtain ⟨b, xs, hb, hx⟩ := State.ints_of_pre rfl harr hlen hall
  have hsm : xs.length < 2 ^ 31 := hx.choose_spec.2.2.2
  have hev : (Term.length (.arg 0)).eval args s none [] s = some (.int xs.length.toInt32) := hx.length_eval hb
  have hv := Cond.le_ints hev (show (Term.int 2560).eval args s none [] s = some (.int 2560) from rfl)
  have hd : xs.length.toInt32 ≤ 2560 := by
    simpa [Cond.before, Cond.holds, hv] using hle
  have hN : xs.length ≤ 2560 := (Int32.ofNat_le_ofNat hsm (by decide)).mp (show Int32.ofNat xs.length ≤ Int32.ofNat 2560 from hd)
  exact ⟨b, xs, Cond.one_arg hc (show args[0]? = some (.ref b) from hb), hx, hN, h⟩
theorem lw_comes (l : Launch) (hlt : l.stackTraces = false) : Comes l x (Jvm.Cond.code x code maxLocals ret :: tables_1) room_1 (fun tb e args s => Calls_1 tb e args s ∧ rest_1 tb e args s ∧ Pre_1 tb e args s)
    (fun _ _ args s o t => lw_Q args s o t) := by
  intro p e ha hc hk s m args below hf hfit hheap happ hpre
  obtain ⟨b, xs, hP⟩ := lw_pre_spec hpre.2.2 hpre.2.1
  obtain ⟨k, o, h1, h2, h3, hQ⟩ := lw_walk l hlt b xs p e ha hc hk s m args below hf ((Spec.applies_iff_loose hf).mp happ).1 hP trivial
  exact ⟨k, o, h1, h2, h3, hQ⟩
theorem lw_frame {s t : State} {o : Outcome} {args : Array Value} (h : Framed s o t [] 696559 7006426) :
    Framed s o t (fieldLocs frame_1_writes args s ++ arrayLocs frame_1_arrays args s ++ staticLocs frame_1_statics s) 696559 7006426 := h
theorem lw_limb (L : Cond) (hL : ∀ (args : Array Value) (s t : State), L.after args s (.returned (some (.int 1))) t = true) :
    ArmFor flags0 classFile x code maxLocals ret World_1 tables_1 room_1 Calls_1 rest_1 Pre_1
      (fun tb e a s o t => postC L tb e a s o t ∧ Framed s o t (fieldLocs frame_1_writes a s ++ arrayLocs frame_1_arrays a s ++ staticLocs frame_1_statics s) 696559 7006426) := by
  intro l hfl _ _ p e ha hc hk s m args below hf hfit hheap happ hpre
  obtain ⟨k, o, h1, h2, h3, rfl, hF⟩ := lw_comes l (by unfold Launch.stackTraces; rw [hfl]; decide +kernel) p e ha hc hk s m args below hf hfit hheap happ hpre
  exact ⟨k, _, h1, h2, h3, hL args s _, lw_frame hF⟩
theorem i_vc : Claimed_1_1 ∧ Claimed_1_2 := ⟨lw_limb limb_1_1 (fun args s t => by simp [limb_1_1, Cond.after, Cond.holds, Cond.value]), lw_limb limb_1_2 (fun args s t => Cond.after_iff.mpr (by
  first | (rw [show limb_1_2 = Cond.eq .result (.int 1) from rfl, Cond.eq_ints (x := 1) (y := 1) rfl rfl]; simp; done) | (simp [limb_1_2, Cond.value, Term.eval]; done)))⟩
