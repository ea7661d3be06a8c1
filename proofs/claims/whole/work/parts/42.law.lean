/-! THE LAW: three worlds side by side (the object's, the reference's, out); a case a theorem -/
/-- the reference's world with the deck's row, raw -/
def Mw (D : va_G) (A : Nat → Prop) (q : Nat → Nat) (cI n : Nat) (F : Nat → Nat → Int32) (B G : Nat → Int32) (dk : List Nat) (thr : Int32) (s : State) (H : Heap) : Prop := ∃ (r : Nat → Int32) (dv : Int32), RowOk r dk ∧ MwR D A q cI n F B G (nI dk.length) r thr dv s H
/-- which cells are whose -/
def Fx (s : State) (M2 qo : Nat) (Ax Am : Nat → Prop) : Prop := (∀ a, Ax a → s.heap.size ≤ a) ∧ (∀ a, Am a → s.heap.size ≤ a) ∧ (∀ a, Am a → ¬ Ax a) ∧ ¬ Ax qo ∧ ¬ Am qo ∧ (∀ a, M2 ≤ a → Ax a) ∧ s.heap.size ≤ qo
def Lw (D : va_G) (Ax Am : Nat → Prop) (qs : Nat → Nat) (cI cL qo M2 : Nat) (P : SwP) (F : Nat → Nat → Int32) (B G : Nat → Int32) (dk : List Nat) (n : Nat) (F2 : Nat → Nat → Int32) (B2 G2 : Nat → Int32) (dk2 : List Nat) (thr : Int32) (v : Nat → Int64) (s : State) (H : Heap) : Prop :=
  XwR D Ax P F B G (nI dk.length) (dfd P dk) s H ∧ Mw D Am qs cI n F2 B2 G2 dk2 thr s H ∧ Ow D cL qo v s H ∧ M2 ≤ H.size
/-- what is fixed over the law's run -/
def Lc (p : Program) (l : Launch) (s : State) (m : MethodId) (c : Code) (b L : Nat) (xs : Nat → Int32) (qo M2 : Nat) (Ax Am : Nat → Prop) : Prop :=
  CallFix p m c code 7 s #[Value.ref b] wB RL ∧ l.stackTraces = false ∧ va_X b L xs s s.heap ∧ b < s.heap.size ∧ Ev (fun a : Nat => s.heap.size ≤ a) s ∧ Fx s M2 qo Ax Am ∧ L ≤ 2560
/-- the law's loop, at the script's place i -/
def LawS (s : State) (b : Nat) (D : va_G) (Ax Am : Nat → Prop) (qs : Nat → Nat) (cI cL qo M2 i : Nat) (H : Heap) (locs : List Loc) (ls : Array Slot) : Prop :=
  ∃ (P : SwP) (F : Nat → Nat → Int32) (B G : Nat → Int32) (dk : List Nat) (thr : Int32) (v : Nat → Int64), Inv P (F, B, G, dk) ∧ Lw D Ax Am qs cI cL qo M2 P F B G dk (pn P) F B G dk thr v s H ∧ va_S (fun a : Nat => s.heap.size ≤ a) s.heap H locs ∧ lv_has ls 7 [(4, .int (nI i)), (3, .ref qo), (2, .ref (qs 0)), (1, .ref (pS P)), (0, .ref b)]
section LawRows
variable {p : Program} {l : Launch} {e : Env} {s t : State} {m : MethodId} {below : List Frame} {meth : Method} {c : Code} {H H1 : Heap} {locs : List Loc} {cells slots : Nat} {Q : State → Prop}
variable {pc : Nat} {ls : Array Slot} {rest : List Value} {b L i : Nat} {xs : Nat → Int32} {D : va_G} {Ax Am : Nat → Prop} {qs : Nat → Nat} {cI cL qo M2 : Nat} {P P' : SwP} {F F' F2 : Nat → Nat → Int32} {B G B' G' B2 G2 : Nat → Int32} {dk dk' dk2 : List Nat} {n n' : Nat} {thr thr' : Int32} {v v' : Nat → Int64}
theorem Mw.kept (h : Mw D Am qs cI n F B G dk thr s H) (hk : ∀ a : Nat, a < H.size → Am a → H1[a]? = H[a]?) : Mw D Am qs cI n F B G dk thr s H1 := by
  obtain ⟨r, dv, h1, h2⟩ := h
  exact ⟨r, dv, h1, h2.1, h2.2.1.kept (fun k x hx => hk x.1 (vx_lt h2.2.1 hx) (h2.2.2.2 k x hx)), h2.2.2⟩
theorem Mw.post (h : Mw D Am qs cI n F B G dk thr s H) (ht : t.heap = H) (hW : s.WarmedH t.vm) : Mz D Am qs cI n F B G dk thr t := by
  obtain ⟨r, dv, h1, h2⟩ := h
  exact mz_mk h1 h2 ht hW
theorem Mw.back (h : Mz D Am qs cI n F B G dk thr t) (ht : t.heap = H) (hvm : s.vm.Alike t.vm) : Mw D Am qs cI n F B G dk thr s H := by
  obtain ⟨r, dv, h1, h2⟩ := h
  exact ⟨r, dv, h1, m_back h2 ht hvm⟩
theorem Mw.recv (h : Mw D Am qs cI n F B G dk thr s H) : ∃ cellB : Cell, H[qs 0]? = some cellB ∧ cellB.vm.isStatics = false ∧ s.vm.findClass RX11 = some cellB.cls := by
  obtain ⟨r, dv, h1, h2⟩ := h
  exact m_recv h2
theorem x_keptB (hw : XwR D Ax P F B G (nI dk.length) (dfd P dk) s H) (hk : ∀ a : Nat, a < H.size → Ax a → H1[a]? = H[a]?) : XwR D Ax P F B G (nI dk.length) (dfd P dk) s H1 := ⟨hw.1, hw.2.1.kept (fun k x hx => hk x.1 (vx_lt hw.2.1 hx) (hw.2.2.2 k x hx)), hw.2.2⟩
/-- behind a call of the object, of the reference, of a helper -/
theorem lw_x (hf : Fx s M2 qo Ax Am) (hw : Lw D Ax Am qs cI cL qo M2 P F B G dk n F2 B2 G2 dk2 thr v s H) (ht : t.heap = H1) (hvm : s.vm.Alike t.vm) (hp : Xp D Ax P' F' B' G' dk' t) (hz : H.size ≤ H1.size) (hk : ∀ a : Nat, a < H.size → ¬ Ax a → H1[a]? = H[a]?) : Lw D Ax Am qs cI cL qo M2 P' F' B' G' dk' n F2 B2 G2 dk2 thr v s H1 :=
  ⟨x_back hp ht hvm, hw.2.1.kept (fun a h1 h2 => hk a h1 (hf.2.2.1 a h2)), hw.2.2.1.kept (hk qo hw.2.2.1.lt hf.2.2.2.1), Nat.le_trans hw.2.2.2 hz⟩
theorem lw_m (hf : Fx s M2 qo Ax Am) (hw : Lw D Ax Am qs cI cL qo M2 P F B G dk n F2 B2 G2 dk2 thr v s H) (ht : t.heap = H1) (hvm : s.vm.Alike t.vm) (hp : Mz D Am qs cI n' F' B' G' dk' thr' t) (hz : H.size ≤ H1.size) (hk : ∀ a : Nat, a < H.size → ¬ Am a → H1[a]? = H[a]?) : Lw D Ax Am qs cI cL qo M2 P F B G dk n' F' B' G' dk' thr' v s H1 :=
  ⟨x_keptB hw.1 (fun a h1 h2 => hk a h1 (fun z => hf.2.2.1 a z h2)), Mw.back hp ht hvm, hw.2.2.1.kept (hk qo hw.2.2.1.lt hf.2.2.2.2.1), Nat.le_trans hw.2.2.2 hz⟩
theorem lw_h (hf : Fx s M2 qo Ax Am) (hw : Lw D Ax Am qs cI cL qo M2 P F B G dk n F2 B2 G2 dk2 thr v s H) (ht : t.heap = H1) (hvm : s.vm.Alike t.vm) (hp : Xp D Ax P' F' B' G' dk' t) (ho : Ow D cL qo v' t t.heap) (hz : H.size ≤ H1.size) (hk : ∀ a : Nat, a < H.size → ¬ (Ax a ∨ a = qo) → H1[a]? = H[a]?) : Lw D Ax Am qs cI cL qo M2 P' F' B' G' dk' n F2 B2 G2 dk2 thr v' s H1 :=
  ⟨x_back hp ht hvm, hw.2.1.kept (fun a h1 h2 => hk a h1 (fun z => z.elim (hf.2.2.1 a h2) (fun z => hf.2.2.2.2.1 (by rw [← z]; exact h2)))), by rw [ht] at ho; exact ho.moved hvm.symm, Nat.le_trans hw.2.2.2 hz⟩
theorem lw_ev (hE : Ev (fun a : Nat => s.heap.size ≤ a) s) (hf : Fx s M2 qo Ax Am) (hM : M2 ≤ H.size) (hS : va_S (fun a : Nat => s.heap.size ≤ a) s.heap H locs) (hU : t.heap = H) (hW : s.WarmedH t.vm) : Ev Ax t := (hE.go hS hU hW).narrow hf.1 (fun a ha => hf.2.2.2.2.2.1 a (Nat.le_trans hM (by rw [← hU]; exact ha)))
/-- script[i + k] -/
theorem l_arg (C : CallFix p m c code 7 s #[Value.ref b] wB RL) (hX : va_X b L xs s s.heap) (hbl : b < s.heap.size) (hS : va_S (fun a : Nat => s.heap.size ≤ a) s.heap H locs) (h0 : ls[0]? = some (.val (.ref b))) (h4 : ls[4]? = some (.val (.int (nI i)))) (k : Nat) {n : Int} (hn : Int32.ofInt n = nI k) (hk : i + k < L) (hL : L ≤ 2560) (d0 : decode code pc = .ok (.aload_n 0, 1)) (d1 : decode code (pc + 1) = .ok (.iload 4, 2)) (d2 : decode code (pc + 3) = .ok (.iconst n, 1)) (d3 : decode code (pc + 4) = .ok (.iadd, 1)) (d4 : decode code (pc + 5) = .ok (.iaload, 1))
    (kk : W p l e room_1 s m #[Value.ref b] below meth c H locs cells slots Q (F0 m (pc + 6) ls (.int (xs (i + k)) :: rest))) : W p l e room_1 s m #[Value.ref b] below meth c H locs cells slots Q (F0 m pc ls rest) := by
  refine lv_aload_n C.1 C.2.1 d0 rfl h0 ?_
  refine lv_iload C.1 C.2.1 d1 h4 ?_
  refine lv_iconst (v := nI k) C.1 C.2.1 d2 hn ?_
  refine lv_iadd C.1 C.2.1 d3 ?_
  rw [nI_add i k]
  refine va_sld C.1 C.2.1 hX hbl (Nat.not_le.mpr hbl) hS (vp_in_nI hk (by omega)) d4 ?_
  rw [nI_clamp (by omega)]
  exact kk
theorem onV_0 {N : Nat} {x : Int32} {z : SwSt} {f : Nat → R3} (hf : ∀ j, (f j).1 = 0) : (onV N x z f).1 = 0 := by
  unfold onV
  split
  · rfl
  · exact hf _
theorem ite_0 {q : Prop} [Decidable q] {x y : R3} (hx : x.1 = 0) (hy : y.1 = 0) : (if q then x else y).1 = 0 := by
  split
  · exact hx
  · exact hy
theorem sig_codeW {s : State} {args : Array Value} {y : MethodName} {b : ByteArray} {mL : Nat} {ret : Option FieldType} {hh : List (Nat × Nat × Nat × Nat)} (h : (Cond.codeWith y b mL ret hh).before args s = true) : ∀ mk methM, s.methodNamed? y = some mk → s.vm.method? mk = some methM → parseMethodDescriptor y.desc = some methM.sig := fun mk methM h1 h2 => by
  obtain ⟨mk', methM', cM, hnamed, hmethM, -, -, -, -, -, -, hsigM⟩ := Cond.codeWith_spec h
  cases h1.symm.trans hnamed
  cases h2.symm.trans hmethM
  exact hsigM
theorem lg_eq (x : Int64) : lg_cmp x x = 0 := by simp [lg_cmp]
end LawRows
set_option maxHeartbeats 400000 in
set_option maxRecDepth 100000 in
/-- add -/
theorem law_0 {p : Program} {l : Launch} {e : Env} {s : State} {m : MethodId} {below : List Frame} {meth : Method} {c : Code} {H : Heap} {locs : List Loc} {cells slots : Nat} {Q : State → Prop} {ls : Array Slot} {b L i : Nat} {xs : Nat → Int32} {D : va_G} {Ax Am : Nat → Prop} {qs : Nat → Nat} {cI cL qo M2 : Nat} (hc : Lc p l s m c b L xs qo M2 Ax Am) (h : LawS s b D Ax Am qs cI cL qo M2 i H locs ls) (hi : i + 5 ≤ L) (hce : cells + 48 ≤ 696559) (hsl : slots + 288 ≤ 7006426)
    (kk : ∀ (H' : Heap) (locs' : List Loc) (cells' slots' : Nat) (ls' : Array Slot), LawS s b D Ax Am qs cI cL qo M2 i H' locs' ls' → cells' ≤ cells + 48 → slots' ≤ slots + 288 → W p l e room_1 s m #[Value.ref b] below meth c H' locs' cells' slots' Q (F0 m 678 ls' [])) : W p l e room_1 s m #[Value.ref b] below meth c H locs cells slots Q (F0 m 116 ls []) := by
  obtain ⟨C, hlt, hX, hbl, hE, hf, hL⟩ := hc
  obtain ⟨P, F, B, G, dk, thr, v, hI, hw, hS, hl⟩ := h
  refine lv_aload_n C.1 C.2.1 dL_law_116 rfl (lv_at hl 3 rfl) ?_
  refine l_arg C hX hbl hS (lv_at hl 4 rfl) (lv_at hl 0 rfl) 1 (by decide) (by omega) hL dL_law_117 dL_law_118 dL_law_120 dL_law_121 dL_law_122 ?_
  refine l_arg C hX hbl hS (lv_at hl 4 rfl) (lv_at hl 0 rfl) 2 (by decide) (by omega) hL dL_law_123 dL_law_124 dL_law_126 dL_law_127 dL_law_128 ?_
  refine l_arg C hX hbl hS (lv_at hl 4 rfl) (lv_at hl 0 rfl) 3 (by decide) (by omega) hL dL_law_129 dL_law_130 dL_law_132 dL_law_133 dL_law_134 ?_
  refine l_arg C hX hbl hS (lv_at hl 4 rfl) (lv_at hl 0 rfl) 4 (by decide) (by omega) hL dL_law_135 dL_law_136 dL_law_138 dL_law_139 dL_law_140 ?_
  obtain ⟨sz, hsz⟩ : ∃ z : Nat, z = H.size := ⟨_, rfl⟩
  have hM := c_X10_add l D Ax P F B G dk sz (xs (i + 1)) (xs (i + 2)) (xs (i + 3)) (xs (i + 4)) hlt hI
  refine ct_ret (ct_V0 C hM (fun U g mk a h => ⟨h.1, h.2.1.same (U := U.calling g mk a) rfl rfl, Xp_bl U g mk a h.2.2⟩) (Or.inl rfl) tb_94 tb_1 ⟨Nat.le_of_ble_eq_true rfl, Nat.le_of_ble_eq_true rfl⟩ tb_91 ⟨by decide, by decide⟩ tb_93 tb_92 (x_recvS hw.1) (fun U hU hW => ⟨by rw [hU, hsz], lw_ev hE hf hw.2.2.2 hS hU hW, x_post hw.1 hU hW⟩) (sig_code (C.2.2.2.2 _ tb_94)) (by show _ = some 4; decide +kernel) hl.1 rfl (Nat.le_of_ble_eq_true rfl) dL_law_141 ⟨by show cells + 2 ≤ 696559; omega, by show slots + 12 ≤ 7006426; omega⟩) hS (fun a h => hf.1 a h) (fun t H locs ht hvm hp hz hk hS => ?_)
  have hw := lw_x hf hw ht hvm hp hz hk
  refine lv_aload_n C.1 C.2.1 dL_law_144 rfl (lv_at hl 2 rfl) ?_
  refine l_arg C hX hbl hS (lv_at hl 4 rfl) (lv_at hl 0 rfl) 1 (by decide) (by omega) hL dL_law_145 dL_law_146 dL_law_148 dL_law_149 dL_law_150 ?_
  refine l_arg C hX hbl hS (lv_at hl 4 rfl) (lv_at hl 0 rfl) 2 (by decide) (by omega) hL dL_law_151 dL_law_152 dL_law_154 dL_law_155 dL_law_156 ?_
  refine l_arg C hX hbl hS (lv_at hl 4 rfl) (lv_at hl 0 rfl) 3 (by decide) (by omega) hL dL_law_157 dL_law_158 dL_law_160 dL_law_161 dL_law_162 ?_
  refine l_arg C hX hbl hS (lv_at hl 4 rfl) (lv_at hl 0 rfl) 4 (by decide) (by omega) hL dL_law_163 dL_law_164 dL_law_166 dL_law_167 dL_law_168 ?_
  refine ct_ret (ct_V0 C (c_X11_add l D Am P qs cI F B G dk thr sz (xs (i + 1)) (xs (i + 2)) (xs (i + 3)) (xs (i + 4)) hI) Mz_bl (Or.inl rfl) tb_770 tb_3 ⟨Nat.le_of_ble_eq_true rfl, Nat.le_of_ble_eq_true rfl⟩ tb_767 ⟨by decide, by decide⟩ tb_769 tb_768 hw.2.1.recv (fun U hU hW => hw.2.1.post hU hW) (sig_code (C.2.2.2.2 _ tb_770)) (by show _ = some 4; decide +kernel) hl.1 rfl (Nat.le_of_ble_eq_true rfl) dL_law_169 ⟨by show cells + 2 + 0 ≤ 696559; omega, by show slots + 12 + 0 ≤ 7006426; omega⟩) hS (fun a h => hf.2.1 a h) (fun t H locs ht hvm hp hz hk hS => ?_)
  have hw := lw_m hf hw ht hvm hp hz hk
  refine lv_icmp_eq (tgt := 678) C.1 C.2.1 dL_law_172 (by decide) (fun _ => ?_) (fun h9 => absurd rfl h9)
  exact kk _ _ _ _ ls ⟨addP P sz (xs (i + 1)) (xs (i + 2)) (xs (i + 3)) (xs (i + 4)), addF (pn P) F (xs (i + 1)) (xs (i + 2)) (xs (i + 3)) (xs (i + 4)), B, G, dk, _, _, add_inv2 hI, hw, hS, by rw [addP_S]; exact hl⟩ (by show cells + 2 + 0 ≤ _; omega) (by show slots + 12 + 0 ≤ _; omega)
set_option maxHeartbeats 400000 in
set_option maxRecDepth 100000 in
/-- weight -/
theorem law_1 {p : Program} {l : Launch} {e : Env} {s : State} {m : MethodId} {below : List Frame} {meth : Method} {c : Code} {H : Heap} {locs : List Loc} {cells slots : Nat} {Q : State → Prop} {ls : Array Slot} {b L i : Nat} {xs : Nat → Int32} {D : va_G} {Ax Am : Nat → Prop} {qs : Nat → Nat} {cI cL qo M2 : Nat} (hc : Lc p l s m c b L xs qo M2 Ax Am) (h : LawS s b D Ax Am qs cI cL qo M2 i H locs ls) (hi : i + 5 ≤ L) (hce : cells + 48 ≤ 696559) (hsl : slots + 288 ≤ 7006426)
    (kk : ∀ (H' : Heap) (locs' : List Loc) (cells' slots' : Nat) (ls' : Array Slot), LawS s b D Ax Am qs cI cL qo M2 i H' locs' ls' → cells' ≤ cells + 48 → slots' ≤ slots + 288 → W p l e room_1 s m #[Value.ref b] below meth c H' locs' cells' slots' Q (F0 m 678 ls' [])) : W p l e room_1 s m #[Value.ref b] below meth c H locs cells slots Q (F0 m 177 ls []) := by
  obtain ⟨C, hlt, hX, hbl, hE, hf, hL⟩ := hc
  obtain ⟨P, F, B, G, dk, thr, v, hI, hw, hS, hl⟩ := h
  have hM := c_X10_weight l D Ax P F B G dk (xs (i + 1)) hlt hI
  rw [ocE_0 (show (oWeight (pk P) (pn P) (xs (i + 1)) (F, B, G, dk)).1 = 0 from onV_0 (fun _ => rfl))] at hM
  refine lv_aload_n C.1 C.2.1 dL_law_177 rfl (lv_at hl 3 rfl) ?_
  refine l_arg C hX hbl hS (lv_at hl 4 rfl) (lv_at hl 0 rfl) 1 (by decide) (by omega) hL dL_law_178 dL_law_179 dL_law_181 dL_law_182 dL_law_183 ?_
  refine ct_ret (ct_V0 C hM Xe_bl (Or.inl rfl) tb_312 tb_1 ⟨Nat.le_of_ble_eq_true rfl, Nat.le_of_ble_eq_true rfl⟩ tb_309 ⟨by decide, by decide⟩ tb_311 tb_310 (x_recvS hw.1) (fun U hU hW => ⟨lw_ev hE hf hw.2.2.2 hS hU hW, x_post hw.1 hU hW⟩) (sig_code (C.2.2.2.2 _ tb_312)) (by show _ = some 1; decide +kernel) hl.1 rfl (Nat.le_of_ble_eq_true rfl) dL_law_184 ⟨by show cells + 2 ≤ 696559; omega, by show slots + 12 ≤ 7006426; omega⟩) hS (fun a h => hf.1 a h) (fun t H locs ht hvm hp hz hk hS => ?_)
  have hw := lw_x hf hw ht hvm hp hz hk
  refine lv_aload_n C.1 C.2.1 dL_law_187 rfl (lv_at hl 2 rfl) ?_
  refine l_arg C hX hbl hS (lv_at hl 4 rfl) (lv_at hl 0 rfl) 1 (by decide) (by omega) hL dL_law_188 dL_law_189 dL_law_191 dL_law_192 dL_law_193 ?_
  refine ct_ret (ct_V0 C (c_X11_weight l D Am P qs cI F B G dk thr (xs (i + 1)) hI) Mz_bl (Or.inl rfl) tb_777 tb_3 ⟨Nat.le_of_ble_eq_true rfl, Nat.le_of_ble_eq_true rfl⟩ tb_774 ⟨by decide, by decide⟩ tb_776 tb_775 hw.2.1.recv (fun U hU hW => hw.2.1.post hU hW) (sig_code (C.2.2.2.2 _ tb_777)) (by show _ = some 1; decide +kernel) hl.1 rfl (Nat.le_of_ble_eq_true rfl) dL_law_194 ⟨by show cells + 2 + 0 ≤ 696559; omega, by show slots + 12 + 0 ≤ 7006426; omega⟩) hS (fun a h => hf.2.1 a h) (fun t H locs ht hvm hp hz hk hS => ?_)
  have hw := lw_m hf hw ht hvm hp hz hk
  refine lv_icmp_eq (tgt := 678) C.1 C.2.1 dL_law_197 (by decide) (fun _ => ?_) (fun h9 => absurd rfl h9)
  exact kk _ _ _ _ ls ⟨P, (oWeight (pk P) (pn P) (xs (i + 1)) (F, B, G, dk)).2.2.1, (oWeight (pk P) (pn P) (xs (i + 1)) (F, B, G, dk)).2.2.2.1, (oWeight (pk P) (pn P) (xs (i + 1)) (F, B, G, dk)).2.2.2.2.1, (oWeight (pk P) (pn P) (xs (i + 1)) (F, B, G, dk)).2.2.2.2.2, _, _, oWeight_inv hI, hw, hS, hl⟩ (by show cells + 2 + 0 ≤ _; omega) (by show slots + 12 + 0 ≤ _; omega)
set_option maxHeartbeats 400000 in
set_option maxRecDepth 100000 in
/-- fits -/
theorem law_3 {p : Program} {l : Launch} {e : Env} {s : State} {m : MethodId} {below : List Frame} {meth : Method} {c : Code} {H : Heap} {locs : List Loc} {cells slots : Nat} {Q : State → Prop} {ls : Array Slot} {b L i : Nat} {xs : Nat → Int32} {D : va_G} {Ax Am : Nat → Prop} {qs : Nat → Nat} {cI cL qo M2 : Nat} (hc : Lc p l s m c b L xs qo M2 Ax Am) (h : LawS s b D Ax Am qs cI cL qo M2 i H locs ls) (hi : i + 5 ≤ L) (hce : cells + 48 ≤ 696559) (hsl : slots + 288 ≤ 7006426)
    (kk : ∀ (H' : Heap) (locs' : List Loc) (cells' slots' : Nat) (ls' : Array Slot), LawS s b D Ax Am qs cI cL qo M2 i H' locs' ls' → cells' ≤ cells + 48 → slots' ≤ slots + 288 → W p l e room_1 s m #[Value.ref b] below meth c H' locs' cells' slots' Q (F0 m 678 ls' [])) : W p l e room_1 s m #[Value.ref b] below meth c H locs cells slots Q (F0 m 270 ls []) := by
  obtain ⟨C, hlt, hX, hbl, hE, hf, hL⟩ := hc
  obtain ⟨P, F, B, G, dk, thr, v, hI, hw, hS, hl⟩ := h
  have hM := c_X10_fits l D Ax P F B G dk (xs (i + 1)) hlt hI
  rw [ocE_0 (show (oFits (pk P) (pn P) (xs (i + 1)) (F, B, G, dk)).1 = 0 from onV_0 (fun _ => rfl))] at hM
  refine lv_aload_n C.1 C.2.1 dL_law_270 rfl (lv_at hl 3 rfl) ?_
  refine l_arg C hX hbl hS (lv_at hl 4 rfl) (lv_at hl 0 rfl) 1 (by decide) (by omega) hL dL_law_271 dL_law_272 dL_law_274 dL_law_275 dL_law_276 ?_
  refine ct_ret (ct_V0 C hM Xe_bl (Or.inl rfl) tb_346 tb_1 ⟨Nat.le_of_ble_eq_true rfl, Nat.le_of_ble_eq_true rfl⟩ tb_343 ⟨by decide, by decide⟩ tb_345 tb_344 (x_recvS hw.1) (fun U hU hW => ⟨lw_ev hE hf hw.2.2.2 hS hU hW, x_post hw.1 hU hW⟩) (sig_code (C.2.2.2.2 _ tb_346)) (by show _ = some 1; decide +kernel) hl.1 rfl (Nat.le_of_ble_eq_true rfl) dL_law_277 ⟨by show cells + 2 ≤ 696559; omega, by show slots + 12 ≤ 7006426; omega⟩) hS (fun a h => hf.1 a h) (fun t H locs ht hvm hp hz hk hS => ?_)
  have hw := lw_x hf hw ht hvm hp hz hk
  refine lv_aload_n C.1 C.2.1 dL_law_280 rfl (lv_at hl 2 rfl) ?_
  refine l_arg C hX hbl hS (lv_at hl 4 rfl) (lv_at hl 0 rfl) 1 (by decide) (by omega) hL dL_law_281 dL_law_282 dL_law_284 dL_law_285 dL_law_286 ?_
  refine ct_ret (ct_V0 C (c_X11_fits l D Am P qs cI F B G dk thr (xs (i + 1)) hI) Mz_bl (Or.inl rfl) tb_804 tb_3 ⟨Nat.le_of_ble_eq_true rfl, Nat.le_of_ble_eq_true rfl⟩ tb_801 ⟨by decide, by decide⟩ tb_803 tb_802 hw.2.1.recv (fun U hU hW => hw.2.1.post hU hW) (sig_code (C.2.2.2.2 _ tb_804)) (by show _ = some 1; decide +kernel) hl.1 rfl (Nat.le_of_ble_eq_true rfl) dL_law_287 ⟨by show cells + 2 + 0 ≤ 696559; omega, by show slots + 12 + 0 ≤ 7006426; omega⟩) hS (fun a h => hf.2.1 a h) (fun t H locs ht hvm hp hz hk hS => ?_)
  have hw := lw_m hf hw ht hvm hp hz hk
  refine lv_icmp_eq (tgt := 678) C.1 C.2.1 dL_law_290 (by decide) (fun _ => ?_) (fun h9 => absurd rfl h9)
  exact kk _ _ _ _ ls ⟨P, (oFits (pk P) (pn P) (xs (i + 1)) (F, B, G, dk)).2.2.1, (oFits (pk P) (pn P) (xs (i + 1)) (F, B, G, dk)).2.2.2.1, (oFits (pk P) (pn P) (xs (i + 1)) (F, B, G, dk)).2.2.2.2.1, (oFits (pk P) (pn P) (xs (i + 1)) (F, B, G, dk)).2.2.2.2.2, _, _, oFits_inv hI, hw, hS, hl⟩ (by show cells + 2 + 0 ≤ _; omega) (by show slots + 12 + 0 ≤ _; omega)
set_option maxHeartbeats 400000 in
set_option maxRecDepth 100000 in
/-- leave -/
theorem law_5 {p : Program} {l : Launch} {e : Env} {s : State} {m : MethodId} {below : List Frame} {meth : Method} {c : Code} {H : Heap} {locs : List Loc} {cells slots : Nat} {Q : State → Prop} {ls : Array Slot} {b L i : Nat} {xs : Nat → Int32} {D : va_G} {Ax Am : Nat → Prop} {qs : Nat → Nat} {cI cL qo M2 : Nat} (hc : Lc p l s m c b L xs qo M2 Ax Am) (h : LawS s b D Ax Am qs cI cL qo M2 i H locs ls) (hi : i + 5 ≤ L) (hce : cells + 48 ≤ 696559) (hsl : slots + 288 ≤ 7006426)
    (kk : ∀ (H' : Heap) (locs' : List Loc) (cells' slots' : Nat) (ls' : Array Slot), LawS s b D Ax Am qs cI cL qo M2 i H' locs' ls' → cells' ≤ cells + 48 → slots' ≤ slots + 288 → W p l e room_1 s m #[Value.ref b] below meth c H' locs' cells' slots' Q (F0 m 678 ls' [])) : W p l e room_1 s m #[Value.ref b] below meth c H locs cells slots Q (F0 m 363 ls []) := by
  obtain ⟨C, hlt, hX, hbl, hE, hf, hL⟩ := hc
  obtain ⟨P, F, B, G, dk, thr, v, hI, hw, hS, hl⟩ := h
  have hM := c_X10_leave l D Ax P F B G dk (xs (i + 1)) hlt hI
  rw [ocE_0 (show (oLeave (pk P) (pn P) (xs (i + 1)) (F, B, G, dk)).1 = 0 from onV_0 (fun _ => ite_0 rfl rfl))] at hM
  refine lv_aload_n C.1 C.2.1 dL_law_363 rfl (lv_at hl 3 rfl) ?_
  refine l_arg C hX hbl hS (lv_at hl 4 rfl) (lv_at hl 0 rfl) 1 (by decide) (by omega) hL dL_law_364 dL_law_365 dL_law_367 dL_law_368 dL_law_369 ?_
  refine ct_ret (ct_V0 C hM Xe_bl (Or.inl rfl) tb_379 tb_1 ⟨Nat.le_of_ble_eq_true rfl, Nat.le_of_ble_eq_true rfl⟩ tb_376 ⟨by decide, by decide⟩ tb_378 tb_377 (x_recvS hw.1) (fun U hU hW => ⟨lw_ev hE hf hw.2.2.2 hS hU hW, x_post hw.1 hU hW⟩) (sig_code (C.2.2.2.2 _ tb_379)) (by show _ = some 1; decide +kernel) hl.1 rfl (Nat.le_of_ble_eq_true rfl) dL_law_370 ⟨by show cells + 2 ≤ 696559; omega, by show slots + 12 ≤ 7006426; omega⟩) hS (fun a h => hf.1 a h) (fun t H locs ht hvm hp hz hk hS => ?_)
  have hw := lw_x hf hw ht hvm hp hz hk
  refine lv_aload_n C.1 C.2.1 dL_law_373 rfl (lv_at hl 2 rfl) ?_
  refine l_arg C hX hbl hS (lv_at hl 4 rfl) (lv_at hl 0 rfl) 1 (by decide) (by omega) hL dL_law_374 dL_law_375 dL_law_377 dL_law_378 dL_law_379 ?_
  refine ct_ret (ct_V0 C (c_X11_leave l D Am P qs cI F B G dk thr (xs (i + 1)) hI) Mz_bl (Or.inl rfl) tb_828 tb_3 ⟨Nat.le_of_ble_eq_true rfl, Nat.le_of_ble_eq_true rfl⟩ tb_825 ⟨by decide, by decide⟩ tb_827 tb_826 hw.2.1.recv (fun U hU hW => hw.2.1.post hU hW) (sig_code (C.2.2.2.2 _ tb_828)) (by show _ = some 1; decide +kernel) hl.1 rfl (Nat.le_of_ble_eq_true rfl) dL_law_380 ⟨by show cells + 2 + 0 ≤ 696559; omega, by show slots + 12 + 0 ≤ 7006426; omega⟩) hS (fun a h => hf.2.1 a h) (fun t H locs ht hvm hp hz hk hS => ?_)
  have hw := lw_m hf hw ht hvm hp hz hk
  refine lv_icmp_eq (tgt := 678) C.1 C.2.1 dL_law_383 (by decide) (fun _ => ?_) (fun h9 => absurd rfl h9)
  exact kk _ _ _ _ ls ⟨P, (oLeave (pk P) (pn P) (xs (i + 1)) (F, B, G, dk)).2.2.1, (oLeave (pk P) (pn P) (xs (i + 1)) (F, B, G, dk)).2.2.2.1, (oLeave (pk P) (pn P) (xs (i + 1)) (F, B, G, dk)).2.2.2.2.1, (oLeave (pk P) (pn P) (xs (i + 1)) (F, B, G, dk)).2.2.2.2.2, _, _, oLeave_inv hI, hw, hS, hl⟩ (by show cells + 2 + 0 ≤ _; omega) (by show slots + 12 + 0 ≤ _; omega)
set_option maxHeartbeats 400000 in
set_option maxRecDepth 100000 in
/-- rebate -/
theorem law_6 {p : Program} {l : Launch} {e : Env} {s : State} {m : MethodId} {below : List Frame} {meth : Method} {c : Code} {H : Heap} {locs : List Loc} {cells slots : Nat} {Q : State → Prop} {ls : Array Slot} {b L i : Nat} {xs : Nat → Int32} {D : va_G} {Ax Am : Nat → Prop} {qs : Nat → Nat} {cI cL qo M2 : Nat} (hc : Lc p l s m c b L xs qo M2 Ax Am) (h : LawS s b D Ax Am qs cI cL qo M2 i H locs ls) (hi : i + 5 ≤ L) (hce : cells + 48 ≤ 696559) (hsl : slots + 288 ≤ 7006426)
    (kk : ∀ (H' : Heap) (locs' : List Loc) (cells' slots' : Nat) (ls' : Array Slot), LawS s b D Ax Am qs cI cL qo M2 i H' locs' ls' → cells' ≤ cells + 48 → slots' ≤ slots + 288 → W p l e room_1 s m #[Value.ref b] below meth c H' locs' cells' slots' Q (F0 m 678 ls' [])) : W p l e room_1 s m #[Value.ref b] below meth c H locs cells slots Q (F0 m 388 ls []) := by
  obtain ⟨C, hlt, hX, hbl, hE, hf, hL⟩ := hc
  obtain ⟨P, F, B, G, dk, thr, v, hI, hw, hS, hl⟩ := h
  have hM := c_X10_rebate l D Ax P F B G dk (xs (i + 1)) hlt hI
  rw [ocE_0 (show (oRebate (pk P) (pn P) (xs (i + 1)) (F, B, G, dk)).1 = 0 from onV_0 (fun _ => rfl))] at hM
  refine lv_aload_n C.1 C.2.1 dL_law_388 rfl (lv_at hl 3 rfl) ?_
  refine l_arg C hX hbl hS (lv_at hl 4 rfl) (lv_at hl 0 rfl) 1 (by decide) (by omega) hL dL_law_389 dL_law_390 dL_law_392 dL_law_393 dL_law_394 ?_
  refine ct_ret (ct_V0 C hM Xe_bl (Or.inl rfl) tb_415 tb_1 ⟨Nat.le_of_ble_eq_true rfl, Nat.le_of_ble_eq_true rfl⟩ tb_412 ⟨by decide, by decide⟩ tb_414 tb_413 (x_recvS hw.1) (fun U hU hW => ⟨lw_ev hE hf hw.2.2.2 hS hU hW, x_post hw.1 hU hW⟩) (sig_code (C.2.2.2.2 _ tb_415)) (by show _ = some 1; decide +kernel) hl.1 rfl (Nat.le_of_ble_eq_true rfl) dL_law_395 ⟨by show cells + 2 ≤ 696559; omega, by show slots + 12 ≤ 7006426; omega⟩) hS (fun a h => hf.1 a h) (fun t H locs ht hvm hp hz hk hS => ?_)
  have hw := lw_x hf hw ht hvm hp hz hk
  refine lv_aload_n C.1 C.2.1 dL_law_398 rfl (lv_at hl 2 rfl) ?_
  refine l_arg C hX hbl hS (lv_at hl 4 rfl) (lv_at hl 0 rfl) 1 (by decide) (by omega) hL dL_law_399 dL_law_400 dL_law_402 dL_law_403 dL_law_404 ?_
  refine ct_ret (ct_V0 C (c_X11_rebate l D Am P qs cI F B G dk thr (xs (i + 1)) hI) Mz_bl (Or.inl rfl) tb_836 tb_3 ⟨Nat.le_of_ble_eq_true rfl, Nat.le_of_ble_eq_true rfl⟩ tb_833 ⟨by decide, by decide⟩ tb_835 tb_834 hw.2.1.recv (fun U hU hW => hw.2.1.post hU hW) (sig_code (C.2.2.2.2 _ tb_836)) (by show _ = some 1; decide +kernel) hl.1 rfl (Nat.le_of_ble_eq_true rfl) dL_law_405 ⟨by show cells + 2 + 0 ≤ 696559; omega, by show slots + 12 + 0 ≤ 7006426; omega⟩) hS (fun a h => hf.2.1 a h) (fun t H locs ht hvm hp hz hk hS => ?_)
  have hw := lw_m hf hw ht hvm hp hz hk
  refine lv_icmp_eq (tgt := 678) C.1 C.2.1 dL_law_408 (by decide) (fun _ => ?_) (fun h9 => absurd rfl h9)
  exact kk _ _ _ _ ls ⟨P, (oRebate (pk P) (pn P) (xs (i + 1)) (F, B, G, dk)).2.2.1, (oRebate (pk P) (pn P) (xs (i + 1)) (F, B, G, dk)).2.2.2.1, (oRebate (pk P) (pn P) (xs (i + 1)) (F, B, G, dk)).2.2.2.2.1, (oRebate (pk P) (pn P) (xs (i + 1)) (F, B, G, dk)).2.2.2.2.2, _, _, oRebate_inv hI, hw, hS, hl⟩ (by show cells + 2 + 0 ≤ _; omega) (by show slots + 12 + 0 ≤ _; omega)
set_option maxHeartbeats 400000 in
set_option maxRecDepth 100000 in
/-- bill -/
theorem law_7 {p : Program} {l : Launch} {e : Env} {s : State} {m : MethodId} {below : List Frame} {meth : Method} {c : Code} {H : Heap} {locs : List Loc} {cells slots : Nat} {Q : State → Prop} {ls : Array Slot} {b L i : Nat} {xs : Nat → Int32} {D : va_G} {Ax Am : Nat → Prop} {qs : Nat → Nat} {cI cL qo M2 : Nat} (hc : Lc p l s m c b L xs qo M2 Ax Am) (h : LawS s b D Ax Am qs cI cL qo M2 i H locs ls) (hi : i + 5 ≤ L) (hce : cells + 48 ≤ 696559) (hsl : slots + 288 ≤ 7006426)
    (kk : ∀ (H' : Heap) (locs' : List Loc) (cells' slots' : Nat) (ls' : Array Slot), LawS s b D Ax Am qs cI cL qo M2 i H' locs' ls' → cells' ≤ cells + 48 → slots' ≤ slots + 288 → W p l e room_1 s m #[Value.ref b] below meth c H' locs' cells' slots' Q (F0 m 678 ls' [])) : W p l e room_1 s m #[Value.ref b] below meth c H locs cells slots Q (F0 m 413 ls []) := by
  obtain ⟨C, hlt, hX, hbl, hE, hf, hL⟩ := hc
  obtain ⟨P, F, B, G, dk, thr, v, hI, hw, hS, hl⟩ := h
  have hM := c_X10_bill l D Ax P F B G dk (xs (i + 1)) (xs (i + 2)) hlt hI
  rw [ocE_0 (show (oBill (pk P) (pn P) (xs (i + 1)) (xs (i + 2)) (F, B, G, dk)).1 = 0 from onV_0 (fun _ => ite_0 rfl (ite_0 rfl rfl)))] at hM
  refine lv_aload_n C.1 C.2.1 dL_law_413 rfl (lv_at hl 3 rfl) ?_
  refine l_arg C hX hbl hS (lv_at hl 4 rfl) (lv_at hl 0 rfl) 1 (by decide) (by omega) hL dL_law_414 dL_law_415 dL_law_417 dL_law_418 dL_law_419 ?_
  refine l_arg C hX hbl hS (lv_at hl 4 rfl) (lv_at hl 0 rfl) 2 (by decide) (by omega) hL dL_law_420 dL_law_421 dL_law_423 dL_law_424 dL_law_425 ?_
  refine ct_ret (ct_V0 C hM Xe_bl (Or.inl rfl) tb_443 tb_1 ⟨Nat.le_of_ble_eq_true rfl, Nat.le_of_ble_eq_true rfl⟩ tb_440 ⟨by decide, by decide⟩ tb_442 tb_441 (x_recvS hw.1) (fun U hU hW => ⟨lw_ev hE hf hw.2.2.2 hS hU hW, x_post hw.1 hU hW⟩) (sig_code (C.2.2.2.2 _ tb_443)) (by show _ = some 2; decide +kernel) hl.1 rfl (Nat.le_of_ble_eq_true rfl) dL_law_426 ⟨by show cells + 2 ≤ 696559; omega, by show slots + 12 ≤ 7006426; omega⟩) hS (fun a h => hf.1 a h) (fun t H locs ht hvm hp hz hk hS => ?_)
  have hw := lw_x hf hw ht hvm hp hz hk
  refine lv_aload_n C.1 C.2.1 dL_law_429 rfl (lv_at hl 2 rfl) ?_
  refine l_arg C hX hbl hS (lv_at hl 4 rfl) (lv_at hl 0 rfl) 1 (by decide) (by omega) hL dL_law_430 dL_law_431 dL_law_433 dL_law_434 dL_law_435 ?_
  refine l_arg C hX hbl hS (lv_at hl 4 rfl) (lv_at hl 0 rfl) 2 (by decide) (by omega) hL dL_law_436 dL_law_437 dL_law_439 dL_law_440 dL_law_441 ?_
  refine ct_ret (ct_V0 C (c_X11_bill l D Am P qs cI F B G dk thr (xs (i + 1)) (xs (i + 2)) hI) Mz_bl (Or.inl rfl) tb_844 tb_3 ⟨Nat.le_of_ble_eq_true rfl, Nat.le_of_ble_eq_true rfl⟩ tb_841 ⟨by decide, by decide⟩ tb_843 tb_842 hw.2.1.recv (fun U hU hW => hw.2.1.post hU hW) (sig_code (C.2.2.2.2 _ tb_844)) (by show _ = some 2; decide +kernel) hl.1 rfl (Nat.le_of_ble_eq_true rfl) dL_law_442 ⟨by show cells + 2 + 0 ≤ 696559; omega, by show slots + 12 + 0 ≤ 7006426; omega⟩) hS (fun a h => hf.2.1 a h) (fun t H locs ht hvm hp hz hk hS => ?_)
  have hw := lw_m hf hw ht hvm hp hz hk
  refine lv_icmp_eq (tgt := 678) C.1 C.2.1 dL_law_445 (by decide) (fun _ => ?_) (fun h9 => absurd rfl h9)
  exact kk _ _ _ _ ls ⟨P, (oBill (pk P) (pn P) (xs (i + 1)) (xs (i + 2)) (F, B, G, dk)).2.2.1, (oBill (pk P) (pn P) (xs (i + 1)) (xs (i + 2)) (F, B, G, dk)).2.2.2.1, (oBill (pk P) (pn P) (xs (i + 1)) (xs (i + 2)) (F, B, G, dk)).2.2.2.2.1, (oBill (pk P) (pn P) (xs (i + 1)) (xs (i + 2)) (F, B, G, dk)).2.2.2.2.2, _, _, oBill_inv hI, hw, hS, hl⟩ (by show cells + 2 + 0 ≤ _; omega) (by show slots + 12 + 0 ≤ _; omega)
set_option maxHeartbeats 400000 in
set_option maxRecDepth 100000 in
/-- month -/
theorem law_8 {p : Program} {l : Launch} {e : Env} {s : State} {m : MethodId} {below : List Frame} {meth : Method} {c : Code} {H : Heap} {locs : List Loc} {cells slots : Nat} {Q : State → Prop} {ls : Array Slot} {b L i : Nat} {xs : Nat → Int32} {D : va_G} {Ax Am : Nat → Prop} {qs : Nat → Nat} {cI cL qo M2 : Nat} (hc : Lc p l s m c b L xs qo M2 Ax Am) (h : LawS s b D Ax Am qs cI cL qo M2 i H locs ls) (hi : i + 5 ≤ L) (hce : cells + 48 ≤ 696559) (hsl : slots + 288 ≤ 7006426)
    (kk : ∀ (H' : Heap) (locs' : List Loc) (cells' slots' : Nat) (ls' : Array Slot), LawS s b D Ax Am qs cI cL qo M2 i H' locs' ls' → cells' ≤ cells + 48 → slots' ≤ slots + 288 → W p l e room_1 s m #[Value.ref b] below meth c H' locs' cells' slots' Q (F0 m 678 ls' [])) : W p l e room_1 s m #[Value.ref b] below meth c H locs cells slots Q (F0 m 450 ls []) := by
  obtain ⟨C, hlt, hX, hbl, hE, hf, hL⟩ := hc
  obtain ⟨P, F, B, G, dk, thr, v, hI, hw, hS, hl⟩ := h
  have hM := c_X10_month l D Ax P F B G dk (xs (i + 1)) (xs (i + 2)) hlt hI
  rw [ocE_0 (show (oMonth (pk P) (pn P) (xs (i + 1)) (xs (i + 2)) (F, B, G, dk)).1 = 0 from onV_0 (fun _ => ite_0 rfl (ite_0 rfl rfl)))] at hM
  refine lv_aload_n C.1 C.2.1 dL_law_450 rfl (lv_at hl 3 rfl) ?_
  refine l_arg C hX hbl hS (lv_at hl 4 rfl) (lv_at hl 0 rfl) 1 (by decide) (by omega) hL dL_law_451 dL_law_452 dL_law_454 dL_law_455 dL_law_456 ?_
  refine l_arg C hX hbl hS (lv_at hl 4 rfl) (lv_at hl 0 rfl) 2 (by decide) (by omega) hL dL_law_457 dL_law_458 dL_law_460 dL_law_461 dL_law_462 ?_
  refine ct_ret (ct_V0 C hM Xe_bl (Or.inl rfl) tb_576 tb_1 ⟨Nat.le_of_ble_eq_true rfl, Nat.le_of_ble_eq_true rfl⟩ tb_573 ⟨by decide, by decide⟩ tb_575 tb_574 (x_recvS hw.1) (fun U hU hW => ⟨lw_ev hE hf hw.2.2.2 hS hU hW, x_post hw.1 hU hW⟩) (sig_code (C.2.2.2.2 _ tb_576)) (by show _ = some 2; decide +kernel) hl.1 rfl (Nat.le_of_ble_eq_true rfl) dL_law_463 ⟨by show cells + 2 ≤ 696559; omega, by show slots + 12 ≤ 7006426; omega⟩) hS (fun a h => hf.1 a h) (fun t H locs ht hvm hp hz hk hS => ?_)
  have hw := lw_x hf hw ht hvm hp hz hk
  refine lv_aload_n C.1 C.2.1 dL_law_466 rfl (lv_at hl 2 rfl) ?_
  refine l_arg C hX hbl hS (lv_at hl 4 rfl) (lv_at hl 0 rfl) 1 (by decide) (by omega) hL dL_law_467 dL_law_468 dL_law_470 dL_law_471 dL_law_472 ?_
  refine l_arg C hX hbl hS (lv_at hl 4 rfl) (lv_at hl 0 rfl) 2 (by decide) (by omega) hL dL_law_473 dL_law_474 dL_law_476 dL_law_477 dL_law_478 ?_
  refine ct_ret (ct_V0 C (c_X11_month l D Am P qs cI F B G dk thr (xs (i + 1)) (xs (i + 2)) hI) Mz_bl (Or.inl rfl) tb_856 tb_3 ⟨Nat.le_of_ble_eq_true rfl, Nat.le_of_ble_eq_true rfl⟩ tb_853 ⟨by decide, by decide⟩ tb_855 tb_854 hw.2.1.recv (fun U hU hW => hw.2.1.post hU hW) (sig_code (C.2.2.2.2 _ tb_856)) (by show _ = some 2; decide +kernel) hl.1 rfl (Nat.le_of_ble_eq_true rfl) dL_law_479 ⟨by show cells + 2 + 0 ≤ 696559; omega, by show slots + 12 + 0 ≤ 7006426; omega⟩) hS (fun a h => hf.2.1 a h) (fun t H locs ht hvm hp hz hk hS => ?_)
  have hw := lw_m hf hw ht hvm hp hz hk
  refine lv_icmp_eq (tgt := 678) C.1 C.2.1 dL_law_482 (by decide) (fun _ => ?_) (fun h9 => absurd rfl h9)
  exact kk _ _ _ _ ls ⟨P, (oMonth (pk P) (pn P) (xs (i + 1)) (xs (i + 2)) (F, B, G, dk)).2.2.1, (oMonth (pk P) (pn P) (xs (i + 1)) (xs (i + 2)) (F, B, G, dk)).2.2.2.1, (oMonth (pk P) (pn P) (xs (i + 1)) (xs (i + 2)) (F, B, G, dk)).2.2.2.2.1, (oMonth (pk P) (pn P) (xs (i + 1)) (xs (i + 2)) (F, B, G, dk)).2.2.2.2.2, _, _, oMonth_inv hI, hw, hS, hl⟩ (by show cells + 2 + 0 ≤ _; omega) (by show slots + 12 + 0 ≤ _; omega)
set_option maxHeartbeats 400000 in
set_option maxRecDepth 100000 in
/-- rush -/
theorem law_10 {p : Program} {l : Launch} {e : Env} {s : State} {m : MethodId} {below : List Frame} {meth : Method} {c : Code} {H : Heap} {locs : List Loc} {cells slots : Nat} {Q : State → Prop} {ls : Array Slot} {b L i : Nat} {xs : Nat → Int32} {D : va_G} {Ax Am : Nat → Prop} {qs : Nat → Nat} {cI cL qo M2 : Nat} (hc : Lc p l s m c b L xs qo M2 Ax Am) (h : LawS s b D Ax Am qs cI cL qo M2 i H locs ls) (hi : i + 5 ≤ L) (hce : cells + 48 ≤ 696559) (hsl : slots + 288 ≤ 7006426)
    (kk : ∀ (H' : Heap) (locs' : List Loc) (cells' slots' : Nat) (ls' : Array Slot), LawS s b D Ax Am qs cI cL qo M2 i H' locs' ls' → cells' ≤ cells + 48 → slots' ≤ slots + 288 → W p l e room_1 s m #[Value.ref b] below meth c H' locs' cells' slots' Q (F0 m 678 ls' [])) : W p l e room_1 s m #[Value.ref b] below meth c H locs cells slots Q (F0 m 528 ls []) := by
  obtain ⟨C, hlt, hX, hbl, hE, hf, hL⟩ := hc
  obtain ⟨P, F, B, G, dk, thr, v, hI, hw, hS, hl⟩ := h
  have hM := c_X10_rush l D Ax P F B G dk (xs (i + 1)) hlt hI
  rw [ocE_0 (show (oRush (pk P) (pn P) (xs (i + 1)) (F, B, G, dk)).1 = 0 from ite_0 rfl rfl)] at hM
  refine lv_aload_n C.1 C.2.1 dL_law_528 rfl (lv_at hl 3 rfl) ?_
  refine l_arg C hX hbl hS (lv_at hl 4 rfl) (lv_at hl 0 rfl) 1 (by decide) (by omega) hL dL_law_529 dL_law_530 dL_law_532 dL_law_533 dL_law_534 ?_
  refine ct_ret (ct_V0 C hM Xe_bl (Or.inr ⟨_, rfl⟩) tb_604 tb_1 ⟨Nat.le_of_ble_eq_true rfl, Nat.le_of_ble_eq_true rfl⟩ tb_601 ⟨by decide, by decide⟩ tb_603 tb_602 (x_recvS hw.1) (fun U hU hW => ⟨lw_ev hE hf hw.2.2.2 hS hU hW, x_post hw.1 hU hW⟩) (sig_codeW (C.2.2.2.2 _ tb_604)) (by show _ = some 1; decide +kernel) hl.1 rfl (Nat.le_of_ble_eq_true rfl) dL_law_535 ⟨by show cells + 48 ≤ 696559; omega, by show slots + 288 ≤ 7006426; omega⟩) hS (fun a h => hf.1 a h) (fun t H locs ht hvm hp hz hk hS => ?_)
  have hw := lw_x hf hw ht hvm hp hz hk
  refine lv_aload_n C.1 C.2.1 dL_law_538 rfl (lv_at hl 2 rfl) ?_
  refine l_arg C hX hbl hS (lv_at hl 4 rfl) (lv_at hl 0 rfl) 1 (by decide) (by omega) hL dL_law_539 dL_law_540 dL_law_542 dL_law_543 dL_law_544 ?_
  refine ct_ret (ct_V0 C (c_X11_rush l D Am P qs cI F B G dk thr (xs (i + 1)) hI) Mz_bl (Or.inl rfl) tb_864 tb_3 ⟨Nat.le_of_ble_eq_true rfl, Nat.le_of_ble_eq_true rfl⟩ tb_861 ⟨by decide, by decide⟩ tb_863 tb_862 hw.2.1.recv (fun U hU hW => hw.2.1.post hU hW) (sig_code (C.2.2.2.2 _ tb_864)) (by show _ = some 1; decide +kernel) hl.1 rfl (Nat.le_of_ble_eq_true rfl) dL_law_545 ⟨by show cells + 48 + 0 ≤ 696559; omega, by show slots + 288 + 0 ≤ 7006426; omega⟩) hS (fun a h => hf.2.1 a h) (fun t H locs ht hvm hp hz hk hS => ?_)
  have hw := lw_m hf hw ht hvm hp hz hk
  refine lv_icmp_eq (tgt := 678) C.1 C.2.1 dL_law_548 (by decide) (fun _ => ?_) (fun h9 => absurd rfl h9)
  exact kk _ _ _ _ ls ⟨P, (oRush (pk P) (pn P) (xs (i + 1)) (F, B, G, dk)).2.2.1, (oRush (pk P) (pn P) (xs (i + 1)) (F, B, G, dk)).2.2.2.1, (oRush (pk P) (pn P) (xs (i + 1)) (F, B, G, dk)).2.2.2.2.1, (oRush (pk P) (pn P) (xs (i + 1)) (F, B, G, dk)).2.2.2.2.2, _, _, oRush_inv hI, hw, hS, hl⟩ (by show cells + 48 + 0 ≤ _; omega) (by show slots + 288 + 0 ≤ _; omega)
set_option maxHeartbeats 400000 in
set_option maxRecDepth 100000 in
/-- clear -/
theorem law_11 {p : Program} {l : Launch} {e : Env} {s : State} {m : MethodId} {below : List Frame} {meth : Method} {c : Code} {H : Heap} {locs : List Loc} {cells slots : Nat} {Q : State → Prop} {ls : Array Slot} {b L i : Nat} {xs : Nat → Int32} {D : va_G} {Ax Am : Nat → Prop} {qs : Nat → Nat} {cI cL qo M2 : Nat} (hc : Lc p l s m c b L xs qo M2 Ax Am) (h : LawS s b D Ax Am qs cI cL qo M2 i H locs ls) (hi : i + 5 ≤ L) (hce : cells + 48 ≤ 696559) (hsl : slots + 288 ≤ 7006426)
    (kk : ∀ (H' : Heap) (locs' : List Loc) (cells' slots' : Nat) (ls' : Array Slot), LawS s b D Ax Am qs cI cL qo M2 i H' locs' ls' → cells' ≤ cells + 48 → slots' ≤ slots + 288 → W p l e room_1 s m #[Value.ref b] below meth c H' locs' cells' slots' Q (F0 m 678 ls' [])) : W p l e room_1 s m #[Value.ref b] below meth c H locs cells slots Q (F0 m 553 ls []) := by
  obtain ⟨C, hlt, hX, hbl, hE, hf, hL⟩ := hc
  obtain ⟨P, F, B, G, dk, thr, v, hI, hw, hS, hl⟩ := h
  have hM := c_X10_clear l D Ax P F B G dk  hlt hI
  rw [ocE_0 (show (oClear (pk P) (F, B, G, dk)).1 = 0 from rfl)] at hM
  refine lv_aload_n C.1 C.2.1 dL_law_553 rfl (lv_at hl 3 rfl) ?_
  refine ct_ret (ct_V0 C hM Xe_bl (Or.inl rfl) tb_664 tb_1 ⟨Nat.le_of_ble_eq_true rfl, Nat.le_of_ble_eq_true rfl⟩ tb_661 ⟨by decide, by decide⟩ tb_663 tb_662 (x_recvS hw.1) (fun U hU hW => ⟨lw_ev hE hf hw.2.2.2 hS hU hW, x_post hw.1 hU hW⟩) (sig_code (C.2.2.2.2 _ tb_664)) (by show _ = some 0; decide +kernel) hl.1 rfl (Nat.le_of_ble_eq_true rfl) dL_law_554 ⟨by show cells + 2 ≤ 696559; omega, by show slots + 12 ≤ 7006426; omega⟩) hS (fun a h => hf.1 a h) (fun t H locs ht hvm hp hz hk hS => ?_)
  have hw := lw_x hf hw ht hvm hp hz hk
  refine lv_aload_n C.1 C.2.1 dL_law_557 rfl (lv_at hl 2 rfl) ?_
  refine ct_ret (ct_V0 C (c_X11_clear l D Am P qs cI F B G dk thr  hI) Mz_bl (Or.inl rfl) tb_868 tb_3 ⟨Nat.le_of_ble_eq_true rfl, Nat.le_of_ble_eq_true rfl⟩ tb_865 ⟨by decide, by decide⟩ tb_867 tb_866 hw.2.1.recv (fun U hU hW => hw.2.1.post hU hW) (sig_code (C.2.2.2.2 _ tb_868)) (by show _ = some 0; decide +kernel) hl.1 rfl (Nat.le_of_ble_eq_true rfl) dL_law_558 ⟨by show cells + 2 + 0 ≤ 696559; omega, by show slots + 12 + 0 ≤ 7006426; omega⟩) hS (fun a h => hf.2.1 a h) (fun t H locs ht hvm hp hz hk hS => ?_)
  have hw := lw_m hf hw ht hvm hp hz hk
  refine lv_icmp_eq (tgt := 678) C.1 C.2.1 dL_law_561 (by decide) (fun _ => ?_) (fun h9 => absurd rfl h9)
  exact kk _ _ _ _ ls ⟨P, (oClear (pk P) (F, B, G, dk)).2.2.1, (oClear (pk P) (F, B, G, dk)).2.2.2.1, (oClear (pk P) (F, B, G, dk)).2.2.2.2.1, (oClear (pk P) (F, B, G, dk)).2.2.2.2.2, _, _, oClear_inv hI, hw, hS, hl⟩ (by show cells + 2 + 0 ≤ _; omega) (by show slots + 12 + 0 ≤ _; omega)
set_option maxHeartbeats 400000 in
set_option maxRecDepth 100000 in
/-- tell -/
theorem law_12 {p : Program} {l : Launch} {e : Env} {s : State} {m : MethodId} {below : List Frame} {meth : Method} {c : Code} {H : Heap} {locs : List Loc} {cells slots : Nat} {Q : State → Prop} {ls : Array Slot} {b L i : Nat} {xs : Nat → Int32} {D : va_G} {Ax Am : Nat → Prop} {qs : Nat → Nat} {cI cL qo M2 : Nat} (hc : Lc p l s m c b L xs qo M2 Ax Am) (h : LawS s b D Ax Am qs cI cL qo M2 i H locs ls) (hi : i + 5 ≤ L) (hce : cells + 48 ≤ 696559) (hsl : slots + 288 ≤ 7006426)
    (kk : ∀ (H' : Heap) (locs' : List Loc) (cells' slots' : Nat) (ls' : Array Slot), LawS s b D Ax Am qs cI cL qo M2 i H' locs' ls' → cells' ≤ cells + 48 → slots' ≤ slots + 288 → W p l e room_1 s m #[Value.ref b] below meth c H' locs' cells' slots' Q (F0 m 678 ls' [])) : W p l e room_1 s m #[Value.ref b] below meth c H locs cells slots Q (F0 m 566 ls []) := by
  obtain ⟨C, hlt, hX, hbl, hE, hf, hL⟩ := hc
  obtain ⟨P, F, B, G, dk, thr, v, hI, hw, hS, hl⟩ := h
  have hM := c_X10_tell l D Ax P F B G dk (xs (i + 1)) (xs (i + 2)) hlt hI
  rw [ocE_0 (show (oTell (pn P) (xs (i + 1)) (xs (i + 2)) (F, B, G, dk)).1 = 0 from onV_0 (fun _ => rfl))] at hM
  refine lv_aload_n C.1 C.2.1 dL_law_566 rfl (lv_at hl 3 rfl) ?_
  refine l_arg C hX hbl hS (lv_at hl 4 rfl) (lv_at hl 0 rfl) 1 (by decide) (by omega) hL dL_law_567 dL_law_568 dL_law_570 dL_law_571 dL_law_572 ?_
  refine l_arg C hX hbl hS (lv_at hl 4 rfl) (lv_at hl 0 rfl) 2 (by decide) (by omega) hL dL_law_573 dL_law_574 dL_law_576 dL_law_577 dL_law_578 ?_
  refine ct_ret (ct_V0 C hM Xe_bl (Or.inl rfl) tb_672 tb_1 ⟨Nat.le_of_ble_eq_true rfl, Nat.le_of_ble_eq_true rfl⟩ tb_669 ⟨by decide, by decide⟩ tb_671 tb_670 (x_recvS hw.1) (fun U hU hW => ⟨lw_ev hE hf hw.2.2.2 hS hU hW, x_post hw.1 hU hW⟩) (sig_code (C.2.2.2.2 _ tb_672)) (by show _ = some 2; decide +kernel) hl.1 rfl (Nat.le_of_ble_eq_true rfl) dL_law_579 ⟨by show cells + 2 ≤ 696559; omega, by show slots + 12 ≤ 7006426; omega⟩) hS (fun a h => hf.1 a h) (fun t H locs ht hvm hp hz hk hS => ?_)
  have hw := lw_x hf hw ht hvm hp hz hk
  refine lv_aload_n C.1 C.2.1 dL_law_582 rfl (lv_at hl 2 rfl) ?_
  refine l_arg C hX hbl hS (lv_at hl 4 rfl) (lv_at hl 0 rfl) 1 (by decide) (by omega) hL dL_law_583 dL_law_584 dL_law_586 dL_law_587 dL_law_588 ?_
  refine l_arg C hX hbl hS (lv_at hl 4 rfl) (lv_at hl 0 rfl) 2 (by decide) (by omega) hL dL_law_589 dL_law_590 dL_law_592 dL_law_593 dL_law_594 ?_
  refine ct_ret (ct_V0 C (c_X11_tell l D Am P qs cI F B G dk thr (xs (i + 1)) (xs (i + 2)) hI) Mz_bl (Or.inl rfl) tb_872 tb_3 ⟨Nat.le_of_ble_eq_true rfl, Nat.le_of_ble_eq_true rfl⟩ tb_869 ⟨by decide, by decide⟩ tb_871 tb_870 hw.2.1.recv (fun U hU hW => hw.2.1.post hU hW) (sig_code (C.2.2.2.2 _ tb_872)) (by show _ = some 2; decide +kernel) hl.1 rfl (Nat.le_of_ble_eq_true rfl) dL_law_595 ⟨by show cells + 2 + 0 ≤ 696559; omega, by show slots + 12 + 0 ≤ 7006426; omega⟩) hS (fun a h => hf.2.1 a h) (fun t H locs ht hvm hp hz hk hS => ?_)
  have hw := lw_m hf hw ht hvm hp hz hk
  refine lv_icmp_eq (tgt := 678) C.1 C.2.1 dL_law_598 (by decide) (fun _ => ?_) (fun h9 => absurd rfl h9)
  exact kk _ _ _ _ ls ⟨P, (oTell (pn P) (xs (i + 1)) (xs (i + 2)) (F, B, G, dk)).2.2.1, (oTell (pn P) (xs (i + 1)) (xs (i + 2)) (F, B, G, dk)).2.2.2.1, (oTell (pn P) (xs (i + 1)) (xs (i + 2)) (F, B, G, dk)).2.2.2.2.1, (oTell (pn P) (xs (i + 1)) (xs (i + 2)) (F, B, G, dk)).2.2.2.2.2, _, _, oTell_inv hI, hw, hS, hl⟩ (by show cells + 2 + 0 ≤ _; omega) (by show slots + 12 + 0 ≤ _; omega)
set_option maxHeartbeats 400000 in
set_option maxRecDepth 100000 in
/-- deck -/
theorem law_13 {p : Program} {l : Launch} {e : Env} {s : State} {m : MethodId} {below : List Frame} {meth : Method} {c : Code} {H : Heap} {locs : List Loc} {cells slots : Nat} {Q : State → Prop} {ls : Array Slot} {b L i : Nat} {xs : Nat → Int32} {D : va_G} {Ax Am : Nat → Prop} {qs : Nat → Nat} {cI cL qo M2 : Nat} (hc : Lc p l s m c b L xs qo M2 Ax Am) (h : LawS s b D Ax Am qs cI cL qo M2 i H locs ls) (hi : i + 5 ≤ L) (hce : cells + 48 ≤ 696559) (hsl : slots + 288 ≤ 7006426)
    (kk : ∀ (H' : Heap) (locs' : List Loc) (cells' slots' : Nat) (ls' : Array Slot), LawS s b D Ax Am qs cI cL qo M2 i H' locs' ls' → cells' ≤ cells + 48 → slots' ≤ slots + 288 → W p l e room_1 s m #[Value.ref b] below meth c H' locs' cells' slots' Q (F0 m 678 ls' [])) : W p l e room_1 s m #[Value.ref b] below meth c H locs cells slots Q (F0 m 603 ls []) := by
  obtain ⟨C, hlt, hX, hbl, hE, hf, hL⟩ := hc
  obtain ⟨P, F, B, G, dk, thr, v, hI, hw, hS, hl⟩ := h
  have hM := c_X10_deck l D Ax P F B G dk (xs (i + 1)) hlt hI
  rw [ocE_0 (show (oDeck (xs (i + 1)) (F, B, G, dk)).1 = 0 from rfl)] at hM
  refine lv_aload_n C.1 C.2.1 dL_law_603 rfl (lv_at hl 3 rfl) ?_
  refine l_arg C hX hbl hS (lv_at hl 4 rfl) (lv_at hl 0 rfl) 1 (by decide) (by omega) hL dL_law_604 dL_law_605 dL_law_607 dL_law_608 dL_law_609 ?_
  refine ct_ret (ct_V0 C hM Xe_bl (Or.inl rfl) tb_676 tb_1 ⟨Nat.le_of_ble_eq_true rfl, Nat.le_of_ble_eq_true rfl⟩ tb_673 ⟨by decide, by decide⟩ tb_675 tb_674 (x_recvS hw.1) (fun U hU hW => ⟨lw_ev hE hf hw.2.2.2 hS hU hW, x_post hw.1 hU hW⟩) (sig_code (C.2.2.2.2 _ tb_676)) (by show _ = some 1; decide +kernel) hl.1 rfl (Nat.le_of_ble_eq_true rfl) dL_law_610 ⟨by show cells + 2 ≤ 696559; omega, by show slots + 12 ≤ 7006426; omega⟩) hS (fun a h => hf.1 a h) (fun t H locs ht hvm hp hz hk hS => ?_)
  have hw := lw_x hf hw ht hvm hp hz hk
  refine lv_aload_n C.1 C.2.1 dL_law_613 rfl (lv_at hl 2 rfl) ?_
  refine l_arg C hX hbl hS (lv_at hl 4 rfl) (lv_at hl 0 rfl) 1 (by decide) (by omega) hL dL_law_614 dL_law_615 dL_law_617 dL_law_618 dL_law_619 ?_
  refine ct_ret (ct_V0 C (c_X11_deck l D Am P qs cI F B G dk thr (xs (i + 1)) hI) Mz_bl (Or.inl rfl) tb_876 tb_3 ⟨Nat.le_of_ble_eq_true rfl, Nat.le_of_ble_eq_true rfl⟩ tb_873 ⟨by decide, by decide⟩ tb_875 tb_874 hw.2.1.recv (fun U hU hW => hw.2.1.post hU hW) (sig_code (C.2.2.2.2 _ tb_876)) (by show _ = some 1; decide +kernel) hl.1 rfl (Nat.le_of_ble_eq_true rfl) dL_law_620 ⟨by show cells + 2 + 0 ≤ 696559; omega, by show slots + 12 + 0 ≤ 7006426; omega⟩) hS (fun a h => hf.2.1 a h) (fun t H locs ht hvm hp hz hk hS => ?_)
  have hw := lw_m hf hw ht hvm hp hz hk
  refine lv_icmp_eq (tgt := 678) C.1 C.2.1 dL_law_623 (by decide) (fun _ => ?_) (fun h9 => absurd rfl h9)
  exact kk _ _ _ _ ls ⟨P, (oDeck (xs (i + 1)) (F, B, G, dk)).2.2.1, (oDeck (xs (i + 1)) (F, B, G, dk)).2.2.2.1, (oDeck (xs (i + 1)) (F, B, G, dk)).2.2.2.2.1, (oDeck (xs (i + 1)) (F, B, G, dk)).2.2.2.2.2, _, _, hI, hw, hS, hl⟩ (by show cells + 2 + 0 ≤ _; omega) (by show slots + 12 + 0 ≤ _; omega)
set_option maxHeartbeats 400000 in
set_option maxRecDepth 100000 in
/-- began -/
theorem law_14 {p : Program} {l : Launch} {e : Env} {s : State} {m : MethodId} {below : List Frame} {meth : Method} {c : Code} {H : Heap} {locs : List Loc} {cells slots : Nat} {Q : State → Prop} {ls : Array Slot} {b L i : Nat} {xs : Nat → Int32} {D : va_G} {Ax Am : Nat → Prop} {qs : Nat → Nat} {cI cL qo M2 : Nat} (hc : Lc p l s m c b L xs qo M2 Ax Am) (h : LawS s b D Ax Am qs cI cL qo M2 i H locs ls) (hi : i + 5 ≤ L) (hce : cells + 48 ≤ 696559) (hsl : slots + 288 ≤ 7006426)
    (kk : ∀ (H' : Heap) (locs' : List Loc) (cells' slots' : Nat) (ls' : Array Slot), LawS s b D Ax Am qs cI cL qo M2 i H' locs' ls' → cells' ≤ cells + 48 → slots' ≤ slots + 288 → W p l e room_1 s m #[Value.ref b] below meth c H' locs' cells' slots' Q (F0 m 678 ls' [])) : W p l e room_1 s m #[Value.ref b] below meth c H locs cells slots Q (F0 m 628 ls []) := by
  obtain ⟨C, hlt, hX, hbl, hE, hf, hL⟩ := hc
  obtain ⟨P, F, B, G, dk, thr, v, hI, hw, hS, hl⟩ := h
  have hM := c_X10_began l D Ax P F B G dk (xs (i + 1)) hlt hI
  rw [ocE_0 (show (oBegan (xs (i + 1)) (F, B, G, dk)).1 = 0 from rfl)] at hM
  refine lv_aload_n C.1 C.2.1 dL_law_628 rfl (lv_at hl 3 rfl) ?_
  refine l_arg C hX hbl hS (lv_at hl 4 rfl) (lv_at hl 0 rfl) 1 (by decide) (by omega) hL dL_law_629 dL_law_630 dL_law_632 dL_law_633 dL_law_634 ?_
  refine ct_ret (ct_V0 C hM Xe_bl (Or.inl rfl) tb_680 tb_1 ⟨Nat.le_of_ble_eq_true rfl, Nat.le_of_ble_eq_true rfl⟩ tb_677 ⟨by decide, by decide⟩ tb_679 tb_678 (x_recvS hw.1) (fun U hU hW => ⟨lw_ev hE hf hw.2.2.2 hS hU hW, x_post hw.1 hU hW⟩) (sig_code (C.2.2.2.2 _ tb_680)) (by show _ = some 1; decide +kernel) hl.1 rfl (Nat.le_of_ble_eq_true rfl) dL_law_635 ⟨by show cells + 2 ≤ 696559; omega, by show slots + 12 ≤ 7006426; omega⟩) hS (fun a h => hf.1 a h) (fun t H locs ht hvm hp hz hk hS => ?_)
  have hw := lw_x hf hw ht hvm hp hz hk
  refine lv_aload_n C.1 C.2.1 dL_law_638 rfl (lv_at hl 2 rfl) ?_
  refine l_arg C hX hbl hS (lv_at hl 4 rfl) (lv_at hl 0 rfl) 1 (by decide) (by omega) hL dL_law_639 dL_law_640 dL_law_642 dL_law_643 dL_law_644 ?_
  refine ct_ret (ct_V0 C (c_X11_began l D Am P qs cI F B G dk thr (xs (i + 1)) hI) Mz_bl (Or.inl rfl) tb_880 tb_3 ⟨Nat.le_of_ble_eq_true rfl, Nat.le_of_ble_eq_true rfl⟩ tb_877 ⟨by decide, by decide⟩ tb_879 tb_878 hw.2.1.recv (fun U hU hW => hw.2.1.post hU hW) (sig_code (C.2.2.2.2 _ tb_880)) (by show _ = some 1; decide +kernel) hl.1 rfl (Nat.le_of_ble_eq_true rfl) dL_law_645 ⟨by show cells + 2 + 0 ≤ 696559; omega, by show slots + 12 + 0 ≤ 7006426; omega⟩) hS (fun a h => hf.2.1 a h) (fun t H locs ht hvm hp hz hk hS => ?_)
  have hw := lw_m hf hw ht hvm hp hz hk
  refine lv_icmp_eq (tgt := 678) C.1 C.2.1 dL_law_648 (by decide) (fun _ => ?_) (fun h9 => absurd rfl h9)
  exact kk _ _ _ _ ls ⟨P, (oBegan (xs (i + 1)) (F, B, G, dk)).2.2.1, (oBegan (xs (i + 1)) (F, B, G, dk)).2.2.2.1, (oBegan (xs (i + 1)) (F, B, G, dk)).2.2.2.2.1, (oBegan (xs (i + 1)) (F, B, G, dk)).2.2.2.2.2, _, _, hI, hw, hS, hl⟩ (by show cells + 2 + 0 ≤ _; omega) (by show slots + 12 + 0 ≤ _; omega)
set_option maxHeartbeats 400000 in
set_option maxRecDepth 100000 in
/-- count -/
theorem law_15 {p : Program} {l : Launch} {e : Env} {s : State} {m : MethodId} {below : List Frame} {meth : Method} {c : Code} {H : Heap} {locs : List Loc} {cells slots : Nat} {Q : State → Prop} {ls : Array Slot} {b L i : Nat} {xs : Nat → Int32} {D : va_G} {Ax Am : Nat → Prop} {qs : Nat → Nat} {cI cL qo M2 : Nat} (hc : Lc p l s m c b L xs qo M2 Ax Am) (h : LawS s b D Ax Am qs cI cL qo M2 i H locs ls) (hi : i + 5 ≤ L) (hce : cells + 48 ≤ 696559) (hsl : slots + 288 ≤ 7006426)
    (kk : ∀ (H' : Heap) (locs' : List Loc) (cells' slots' : Nat) (ls' : Array Slot), LawS s b D Ax Am qs cI cL qo M2 i H' locs' ls' → cells' ≤ cells + 48 → slots' ≤ slots + 288 → W p l e room_1 s m #[Value.ref b] below meth c H' locs' cells' slots' Q (F0 m 678 ls' [])) : W p l e room_1 s m #[Value.ref b] below meth c H locs cells slots Q (F0 m 653 ls []) := by
  obtain ⟨C, hlt, hX, hbl, hE, hf, hL⟩ := hc
  obtain ⟨P, F, B, G, dk, thr, v, hI, hw, hS, hl⟩ := h
  have hM := c_X10_count l D Ax P F B G dk (xs (i + 1)) hlt hI
  rw [ocE_0 (show (oCount (pn P) (xs (i + 1)) (F, B, G, dk)).1 = 0 from rfl)] at hM
  refine lv_aload_n C.1 C.2.1 dL_law_653 rfl (lv_at hl 3 rfl) ?_
  refine l_arg C hX hbl hS (lv_at hl 4 rfl) (lv_at hl 0 rfl) 1 (by decide) (by omega) hL dL_law_654 dL_law_655 dL_law_657 dL_law_658 dL_law_659 ?_
  refine ct_ret (ct_V0 C hM Xe_bl (Or.inl rfl) tb_684 tb_1 ⟨Nat.le_of_ble_eq_true rfl, Nat.le_of_ble_eq_true rfl⟩ tb_681 ⟨by decide, by decide⟩ tb_683 tb_682 (x_recvS hw.1) (fun U hU hW => ⟨lw_ev hE hf hw.2.2.2 hS hU hW, x_post hw.1 hU hW⟩) (sig_code (C.2.2.2.2 _ tb_684)) (by show _ = some 1; decide +kernel) hl.1 rfl (Nat.le_of_ble_eq_true rfl) dL_law_660 ⟨by show cells + 2 ≤ 696559; omega, by show slots + 12 ≤ 7006426; omega⟩) hS (fun a h => hf.1 a h) (fun t H locs ht hvm hp hz hk hS => ?_)
  have hw := lw_x hf hw ht hvm hp hz hk
  refine lv_aload_n C.1 C.2.1 dL_law_663 rfl (lv_at hl 2 rfl) ?_
  refine l_arg C hX hbl hS (lv_at hl 4 rfl) (lv_at hl 0 rfl) 1 (by decide) (by omega) hL dL_law_664 dL_law_665 dL_law_667 dL_law_668 dL_law_669 ?_
  refine ct_ret (ct_V0 C (c_X11_count l D Am P qs cI F B G dk thr (xs (i + 1)) hI) Mz_bl (Or.inl rfl) tb_884 tb_3 ⟨Nat.le_of_ble_eq_true rfl, Nat.le_of_ble_eq_true rfl⟩ tb_881 ⟨by decide, by decide⟩ tb_883 tb_882 hw.2.1.recv (fun U hU hW => hw.2.1.post hU hW) (sig_code (C.2.2.2.2 _ tb_884)) (by show _ = some 1; decide +kernel) hl.1 rfl (Nat.le_of_ble_eq_true rfl) dL_law_670 ⟨by show cells + 2 + 0 ≤ 696559; omega, by show slots + 12 + 0 ≤ 7006426; omega⟩) hS (fun a h => hf.2.1 a h) (fun t H locs ht hvm hp hz hk hS => ?_)
  have hw := lw_m hf hw ht hvm hp hz hk
  refine lv_icmp_eq (tgt := 678) C.1 C.2.1 dL_law_673 (by decide) (fun _ => ?_) (fun h9 => absurd rfl h9)
  exact kk _ _ _ _ ls ⟨P, (oCount (pn P) (xs (i + 1)) (F, B, G, dk)).2.2.1, (oCount (pn P) (xs (i + 1)) (F, B, G, dk)).2.2.2.1, (oCount (pn P) (xs (i + 1)) (F, B, G, dk)).2.2.2.2.1, (oCount (pn P) (xs (i + 1)) (F, B, G, dk)).2.2.2.2.2, _, _, hI, hw, hS, hl⟩ (by show cells + 2 + 0 ≤ _; omega) (by show slots + 12 + 0 ≤ _; omega)
set_option maxHeartbeats 400000 in
set_option maxRecDepth 100000 in
/-- toll -/
theorem law_2 {p : Program} {l : Launch} {e : Env} {s : State} {m : MethodId} {below : List Frame} {meth : Method} {c : Code} {H : Heap} {locs : List Loc} {cells slots : Nat} {Q : State → Prop} {ls : Array Slot} {b L i : Nat} {xs : Nat → Int32} {D : va_G} {Ax Am : Nat → Prop} {qs : Nat → Nat} {cI cL qo M2 : Nat} (hc : Lc p l s m c b L xs qo M2 Ax Am) (h : LawS s b D Ax Am qs cI cL qo M2 i H locs ls) (hi : i + 5 ≤ L) (hce : cells + 48 ≤ 696559) (hsl : slots + 288 ≤ 7006426)
    (kk : ∀ (H' : Heap) (locs' : List Loc) (cells' slots' : Nat) (ls' : Array Slot), LawS s b D Ax Am qs cI cL qo M2 i H' locs' ls' → cells' ≤ cells + 48 → slots' ≤ slots + 288 → W p l e room_1 s m #[Value.ref b] below meth c H' locs' cells' slots' Q (F0 m 678 ls' [])) : W p l e room_1 s m #[Value.ref b] below meth c H locs cells slots Q (F0 m 202 ls []) := by
  obtain ⟨C, hlt, hX, hbl, hE, hf, hL⟩ := hc
  obtain ⟨P, F, B, G, dk, thr, v, hI, hw, hS, hl⟩ := h
  refine lv_aload_n C.1 C.2.1 dL_law_202 rfl (lv_at hl 3 rfl) ?_
  refine l_arg C hX hbl hS (lv_at hl 4 rfl) (lv_at hl 0 rfl) 1 (by decide) (by omega) hL dL_law_203 dL_law_204 dL_law_206 dL_law_207 dL_law_208 ?_
  refine l_arg C hX hbl hS (lv_at hl 4 rfl) (lv_at hl 0 rfl) 2 (by decide) (by omega) hL dL_law_209 dL_law_210 dL_law_212 dL_law_213 dL_law_214 ?_
  refine lv_aload_n C.1 C.2.1 dL_law_215 rfl (lv_at hl 1 rfl) ?_
  refine ct_ret (ct_S C (c_L_toll l D Ax P F B G dk cL qo v (xs (i + 1)) (xs (i + 2)) hlt hI hf.2.2.2.1) Lp_bl (Or.inr ⟨_, rfl⟩) tb_687 tb_0 ⟨Nat.le_of_ble_eq_true rfl, Nat.le_of_ble_eq_true rfl⟩ tb_685 ⟨by decide, by decide⟩ tb_686 (fun U hU hW => ⟨lw_ev hE hf hw.2.2.2 hS hU hW, x_post hw.1 hU hW, by rw [hU]; exact hw.2.2.1.moved hW.alike⟩) (by show _ = some 4; decide +kernel) hl.1 rfl (Nat.le_of_ble_eq_true rfl) dL_law_216 ⟨by show cells + 2 ≤ 696559; omega, by show slots + 12 ≤ 7006426; omega⟩) hS (fun a h => h.elim (hf.1 a) (fun z => by rw [z]; exact hf.2.2.2.2.2.2)) (fun t H locs ht hvm hp hz hk hS => ?_)
  obtain ⟨hp, v2, hv2, ho2⟩ := hp
  have hw := lw_h hf hw ht hvm hp ho2 hz hk
  refine lv_istore (lv' := [(5, .int (if (oToll (pk P) (pn P) (xs (i + 1)) (xs (i + 2)) (F, B, G, dk)).1 = 0 then 0 else 1)), (4, .int (nI i)), (3, .ref qo), (2, .ref (qs 0)), (1, .ref (pS P)), (0, .ref b)]) C.1 C.2.1 dL_law_219 hl (by decide) rfl (fun ls hl => ?_)
  refine lv_aload_n C.1 C.2.1 dL_law_221 rfl (lv_at hl 3 rfl) ?_
  refine l_arg C hX hbl hS (lv_at hl 5 rfl) (lv_at hl 1 rfl) 1 (by decide) (by omega) hL dL_law_222 dL_law_223 dL_law_225 dL_law_226 dL_law_227 ?_
  refine l_arg C hX hbl hS (lv_at hl 5 rfl) (lv_at hl 1 rfl) 2 (by decide) (by omega) hL dL_law_228 dL_law_229 dL_law_231 dL_law_232 dL_law_233 ?_
  refine ct_ret (ct_V0 C (c_X11_toll l D Am P qs cI F B G dk thr (xs (i + 1)) (xs (i + 2)) hI) Mz_bl (Or.inl rfl) tb_789 tb_3 ⟨Nat.le_of_ble_eq_true rfl, Nat.le_of_ble_eq_true rfl⟩ tb_786 ⟨by decide, by decide⟩ tb_788 tb_787 hw.2.1.recv (fun U hU hW => hw.2.1.post hU hW) (sig_code (C.2.2.2.2 _ tb_789)) (by show _ = some 2; decide +kernel) hl.1 rfl (Nat.le_of_ble_eq_true rfl) dL_law_234 ⟨by show cells + 2 + 0 ≤ 696559; omega, by show slots + 12 + 0 ≤ 7006426; omega⟩) hS (fun a h => hf.2.1 a h) (fun t H locs ht hvm hp hz hk hS => ?_)
  have hw := lw_m hf hw ht hvm hp hz hk
  refine lv_istore (lv' := [(6, .int ((oToll (pk P) (pn P) (xs (i + 1)) (xs (i + 2)) (F, B, G, dk)).2.1)), (5, .int (if (oToll (pk P) (pn P) (xs (i + 1)) (xs (i + 2)) (F, B, G, dk)).1 = 0 then 0 else 1)), (4, .int (nI i)), (3, .ref qo), (2, .ref (qs 0)), (1, .ref (pS P)), (0, .ref b)]) C.1 C.2.1 dL_law_237 hl (by decide) rfl (fun ls hl => ?_)
  refine lv_aload_n C.1 C.2.1 dL_law_239 rfl (lv_at hl 4 rfl) ?_
  refine ct_ret (ct_V0 C (c_X11_thrown l D Am P qs cI (oToll (pk P) (pn P) (xs (i + 1)) (xs (i + 2)) (F, B, G, dk)).2.2.1 (oToll (pk P) (pn P) (xs (i + 1)) (xs (i + 2)) (F, B, G, dk)).2.2.2.1 (oToll (pk P) (pn P) (xs (i + 1)) (xs (i + 2)) (F, B, G, dk)).2.2.2.2.1 (oToll (pk P) (pn P) (xs (i + 1)) (xs (i + 2)) (F, B, G, dk)).2.2.2.2.2 (if (oToll (pk P) (pn P) (xs (i + 1)) (xs (i + 2)) (F, B, G, dk)).1 = 0 then 0 else 1)) Mz_bl (Or.inl rfl) tb_766 tb_3 ⟨Nat.le_of_ble_eq_true rfl, Nat.le_of_ble_eq_true rfl⟩ tb_763 ⟨by decide, by decide⟩ tb_765 tb_764 hw.2.1.recv (fun U hU hW => hw.2.1.post hU hW) (sig_code (C.2.2.2.2 _ tb_766)) (by show _ = some 0; decide +kernel) hl.1 rfl (Nat.le_of_ble_eq_true rfl) dL_law_240 ⟨by show cells + 2 + 0 + 0 ≤ 696559; omega, by show slots + 12 + 0 + 0 ≤ 7006426; omega⟩) hS (fun a h => hf.2.1 a h) (fun t H locs ht hvm hp hz hk hS => ?_)
  have hw := lw_m hf hw ht hvm hp hz hk
  refine lv_iload C.1 C.2.1 dL_law_243 (lv_at hl 1 rfl) ?_
  refine lv_icmp_eq (tgt := 250) C.1 C.2.1 dL_law_245 (by decide) (fun _ => ?_) (fun h9 => absurd rfl h9)
  refine lv_iload C.1 C.2.1 dL_law_250 (lv_at hl 1 rfl) ?_
  have go : W p l e room_1 s m #[Value.ref b] below meth c H locs (cells + 2 + 0 + 0) (slots + 12 + 0 + 0) Q (F0 m 267 ls []) := by
    refine lv_goto (tgt := 678) C.1 C.2.1 dL_law_267 (by decide) ?_
    exact kk _ _ _ _ ls ⟨P, (oToll (pk P) (pn P) (xs (i + 1)) (xs (i + 2)) (F, B, G, dk)).2.2.1, (oToll (pk P) (pn P) (xs (i + 1)) (xs (i + 2)) (F, B, G, dk)).2.2.2.1, (oToll (pk P) (pn P) (xs (i + 1)) (xs (i + 2)) (F, B, G, dk)).2.2.2.2.1, (oToll (pk P) (pn P) (xs (i + 1)) (xs (i + 2)) (F, B, G, dk)).2.2.2.2.2, _, _, oToll_inv hI, hw, hS, lv_sub hl [2, 3, 4, 5, 6] rfl⟩ (by omega) (by omega)
  refine lv_if_ne (tgt := 267) C.1 C.2.1 dL_law_252 (by decide) (fun _ => go) (fun h0 => ?_)
  have hr0 : (oToll (pk P) (pn P) (xs (i + 1)) (xs (i + 2)) (F, B, G, dk)).1 = 0 := by by_cases z : (oToll (pk P) (pn P) (xs (i + 1)) (xs (i + 2)) (F, B, G, dk)).1 = 0; exact z; rw [if_neg z] at h0; exact absurd h0 (by decide)
  refine lv_aload_n C.1 C.2.1 dL_law_255 rfl (lv_at hl 3 rfl) ?_
  refine lv_iconst (v := 0) C.1 C.2.1 dL_law_256 (by decide) ?_
  refine o_lald C hw.2.2.1 dL_law_257 ?_
  refine lv_iload C.1 C.2.1 dL_law_258 (lv_at hl 0 rfl) ?_
  refine lv_i2l C.1 C.2.1 dL_law_260 rfl ?_
  rw [← hv2 hr0]
  refine W.lcmp C.1 C.2.1 dL_law_261 ?_
  rw [lg_eq]
  exact lv_if_eq (tgt := 267) C.1 C.2.1 dL_law_262 (by decide) (fun _ => go) (fun h9 => absurd rfl h9)
set_option maxHeartbeats 400000 in
set_option maxRecDepth 100000 in
/-- enter -/
theorem law_4 {p : Program} {l : Launch} {e : Env} {s : State} {m : MethodId} {below : List Frame} {meth : Method} {c : Code} {H : Heap} {locs : List Loc} {cells slots : Nat} {Q : State → Prop} {ls : Array Slot} {b L i : Nat} {xs : Nat → Int32} {D : va_G} {Ax Am : Nat → Prop} {qs : Nat → Nat} {cI cL qo M2 : Nat} (hc : Lc p l s m c b L xs qo M2 Ax Am) (h : LawS s b D Ax Am qs cI cL qo M2 i H locs ls) (hi : i + 5 ≤ L) (hce : cells + 48 ≤ 696559) (hsl : slots + 288 ≤ 7006426)
    (kk : ∀ (H' : Heap) (locs' : List Loc) (cells' slots' : Nat) (ls' : Array Slot), LawS s b D Ax Am qs cI cL qo M2 i H' locs' ls' → cells' ≤ cells + 48 → slots' ≤ slots + 288 → W p l e room_1 s m #[Value.ref b] below meth c H' locs' cells' slots' Q (F0 m 678 ls' [])) : W p l e room_1 s m #[Value.ref b] below meth c H locs cells slots Q (F0 m 295 ls []) := by
  obtain ⟨C, hlt, hX, hbl, hE, hf, hL⟩ := hc
  obtain ⟨P, F, B, G, dk, thr, v, hI, hw, hS, hl⟩ := h
  refine lv_aload_n C.1 C.2.1 dL_law_295 rfl (lv_at hl 3 rfl) ?_
  refine l_arg C hX hbl hS (lv_at hl 4 rfl) (lv_at hl 0 rfl) 1 (by decide) (by omega) hL dL_law_296 dL_law_297 dL_law_299 dL_law_300 dL_law_301 ?_
  refine l_arg C hX hbl hS (lv_at hl 4 rfl) (lv_at hl 0 rfl) 2 (by decide) (by omega) hL dL_law_302 dL_law_303 dL_law_305 dL_law_306 dL_law_307 ?_
  refine lv_aload_n C.1 C.2.1 dL_law_308 rfl (lv_at hl 1 rfl) ?_
  refine ct_ret (ct_S C (c_L_enter l D Ax P F B G dk cL qo v (xs (i + 1)) (xs (i + 2)) hlt hI hf.2.2.2.1) Lp_bl (Or.inr ⟨_, rfl⟩) tb_696 tb_0 ⟨Nat.le_of_ble_eq_true rfl, Nat.le_of_ble_eq_true rfl⟩ tb_694 ⟨by decide, by decide⟩ tb_695 (fun U hU hW => ⟨lw_ev hE hf hw.2.2.2 hS hU hW, x_post hw.1 hU hW, by rw [hU]; exact hw.2.2.1.moved hW.alike⟩) (by show _ = some 4; decide +kernel) hl.1 rfl (Nat.le_of_ble_eq_true rfl) dL_law_309 ⟨by show cells + 2 ≤ 696559; omega, by show slots + 12 ≤ 7006426; omega⟩) hS (fun a h => h.elim (hf.1 a) (fun z => by rw [z]; exact hf.2.2.2.2.2.2)) (fun t H locs ht hvm hp hz hk hS => ?_)
  obtain ⟨hp, v2, hv2, ho2⟩ := hp
  have hw := lw_h hf hw ht hvm hp ho2 hz hk
  refine lv_istore (lv' := [(5, .int (nI (oEnter (pk P) (pn P) (xs (i + 1)) (xs (i + 2)) (F, B, G, dk)).1)), (4, .int (nI i)), (3, .ref qo), (2, .ref (qs 0)), (1, .ref (pS P)), (0, .ref b)]) C.1 C.2.1 dL_law_312 hl (by decide) rfl (fun ls hl => ?_)
  refine lv_aload_n C.1 C.2.1 dL_law_314 rfl (lv_at hl 3 rfl) ?_
  refine l_arg C hX hbl hS (lv_at hl 5 rfl) (lv_at hl 1 rfl) 1 (by decide) (by omega) hL dL_law_315 dL_law_316 dL_law_318 dL_law_319 dL_law_320 ?_
  refine l_arg C hX hbl hS (lv_at hl 5 rfl) (lv_at hl 1 rfl) 2 (by decide) (by omega) hL dL_law_321 dL_law_322 dL_law_324 dL_law_325 dL_law_326 ?_
  refine ct_ret (ct_V0 C (c_X11_enter l D Am P qs cI F B G dk thr (xs (i + 1)) (xs (i + 2)) hI) Mz_bl (Or.inl rfl) tb_816 tb_3 ⟨Nat.le_of_ble_eq_true rfl, Nat.le_of_ble_eq_true rfl⟩ tb_813 ⟨by decide, by decide⟩ tb_815 tb_814 hw.2.1.recv (fun U hU hW => hw.2.1.post hU hW) (sig_code (C.2.2.2.2 _ tb_816)) (by show _ = some 2; decide +kernel) hl.1 rfl (Nat.le_of_ble_eq_true rfl) dL_law_327 ⟨by show cells + 2 + 0 ≤ 696559; omega, by show slots + 12 + 0 ≤ 7006426; omega⟩) hS (fun a h => hf.2.1 a h) (fun t H locs ht hvm hp hz hk hS => ?_)
  have hw := lw_m hf hw ht hvm hp hz hk
  refine lv_istore (lv' := [(6, .int (if (oEnter (pk P) (pn P) (xs (i + 1)) (xs (i + 2)) (F, B, G, dk)).1 = 0 then (oEnter (pk P) (pn P) (xs (i + 1)) (xs (i + 2)) (F, B, G, dk)).2.1 else 0)), (5, .int (nI (oEnter (pk P) (pn P) (xs (i + 1)) (xs (i + 2)) (F, B, G, dk)).1)), (4, .int (nI i)), (3, .ref qo), (2, .ref (qs 0)), (1, .ref (pS P)), (0, .ref b)]) C.1 C.2.1 dL_law_330 hl (by decide) rfl (fun ls hl => ?_)
  refine lv_aload_n C.1 C.2.1 dL_law_332 rfl (lv_at hl 4 rfl) ?_
  refine ct_ret (ct_V0 C (c_X11_thrown l D Am P qs cI (oEnter (pk P) (pn P) (xs (i + 1)) (xs (i + 2)) (F, B, G, dk)).2.2.1 (oEnter (pk P) (pn P) (xs (i + 1)) (xs (i + 2)) (F, B, G, dk)).2.2.2.1 (oEnter (pk P) (pn P) (xs (i + 1)) (xs (i + 2)) (F, B, G, dk)).2.2.2.2.1 (oEnter (pk P) (pn P) (xs (i + 1)) (xs (i + 2)) (F, B, G, dk)).2.2.2.2.2 (nI (oEnter (pk P) (pn P) (xs (i + 1)) (xs (i + 2)) (F, B, G, dk)).1)) Mz_bl (Or.inl rfl) tb_766 tb_3 ⟨Nat.le_of_ble_eq_true rfl, Nat.le_of_ble_eq_true rfl⟩ tb_763 ⟨by decide, by decide⟩ tb_765 tb_764 hw.2.1.recv (fun U hU hW => hw.2.1.post hU hW) (sig_code (C.2.2.2.2 _ tb_766)) (by show _ = some 0; decide +kernel) hl.1 rfl (Nat.le_of_ble_eq_true rfl) dL_law_333 ⟨by show cells + 2 + 0 + 0 ≤ 696559; omega, by show slots + 12 + 0 + 0 ≤ 7006426; omega⟩) hS (fun a h => hf.2.1 a h) (fun t H locs ht hvm hp hz hk hS => ?_)
  have hw := lw_m hf hw ht hvm hp hz hk
  refine lv_iload C.1 C.2.1 dL_law_336 (lv_at hl 1 rfl) ?_
  refine lv_icmp_eq (tgt := 343) C.1 C.2.1 dL_law_338 (by decide) (fun _ => ?_) (fun h9 => absurd rfl h9)
  refine lv_iload C.1 C.2.1 dL_law_343 (lv_at hl 1 rfl) ?_
  have go : W p l e room_1 s m #[Value.ref b] below meth c H locs (cells + 2 + 0 + 0) (slots + 12 + 0 + 0) Q (F0 m 360 ls []) := by
    refine lv_goto (tgt := 678) C.1 C.2.1 dL_law_360 (by decide) ?_
    exact kk _ _ _ _ ls ⟨P, (oEnter (pk P) (pn P) (xs (i + 1)) (xs (i + 2)) (F, B, G, dk)).2.2.1, (oEnter (pk P) (pn P) (xs (i + 1)) (xs (i + 2)) (F, B, G, dk)).2.2.2.1, (oEnter (pk P) (pn P) (xs (i + 1)) (xs (i + 2)) (F, B, G, dk)).2.2.2.2.1, (oEnter (pk P) (pn P) (xs (i + 1)) (xs (i + 2)) (F, B, G, dk)).2.2.2.2.2, _, _, oEnter_inv hI, hw, hS, lv_sub hl [2, 3, 4, 5, 6] rfl⟩ (by omega) (by omega)
  refine lv_if_ne (tgt := 360) C.1 C.2.1 dL_law_345 (by decide) (fun _ => go) (fun h0 => ?_)
  have e3 := oEnter_3 (P := P) (F := F) (B := B) (G := G) (dk := dk) (x := xs (i + 1)) (h := xs (i + 2))
  have hr0 : (oEnter (pk P) (pn P) (xs (i + 1)) (xs (i + 2)) (F, B, G, dk)).1 = 0 := (nI_eq (b := 0) (by omega) (by omega)).mp h0
  refine lv_aload_n C.1 C.2.1 dL_law_348 rfl (lv_at hl 3 rfl) ?_
  refine lv_iconst (v := 0) C.1 C.2.1 dL_law_349 (by decide) ?_
  refine o_lald C hw.2.2.1 dL_law_350 ?_
  refine lv_iload C.1 C.2.1 dL_law_351 (lv_at hl 0 rfl) ?_
  refine lv_i2l C.1 C.2.1 dL_law_353 rfl ?_
  rw [if_pos hr0]
  rw [← hv2 hr0]
  refine W.lcmp C.1 C.2.1 dL_law_354 ?_
  rw [lg_eq]
  exact lv_if_eq (tgt := 360) C.1 C.2.1 dL_law_355 (by decide) (fun _ => go) (fun h9 => absurd rfl h9)
set_option maxHeartbeats 400000 in
set_option maxRecDepth 100000 in
/-- swing -/
theorem law_9 {p : Program} {l : Launch} {e : Env} {s : State} {m : MethodId} {below : List Frame} {meth : Method} {c : Code} {H : Heap} {locs : List Loc} {cells slots : Nat} {Q : State → Prop} {ls : Array Slot} {b L i : Nat} {xs : Nat → Int32} {D : va_G} {Ax Am : Nat → Prop} {qs : Nat → Nat} {cI cL qo M2 : Nat} (hc : Lc p l s m c b L xs qo M2 Ax Am) (h : LawS s b D Ax Am qs cI cL qo M2 i H locs ls) (hi : i + 5 ≤ L) (hce : cells + 48 ≤ 696559) (hsl : slots + 288 ≤ 7006426)
    (kk : ∀ (H' : Heap) (locs' : List Loc) (cells' slots' : Nat) (ls' : Array Slot), LawS s b D Ax Am qs cI cL qo M2 i H' locs' ls' → cells' ≤ cells + 48 → slots' ≤ slots + 288 → W p l e room_1 s m #[Value.ref b] below meth c H' locs' cells' slots' Q (F0 m 678 ls' [])) : W p l e room_1 s m #[Value.ref b] below meth c H locs cells slots Q (F0 m 487 ls []) := by
  obtain ⟨C, hlt, hX, hbl, hE, hf, hL⟩ := hc
  obtain ⟨P, F, B, G, dk, thr, v, hI, hw, hS, hl⟩ := h
  by_cases hx0 : xs (i + 1) = 0
  · have hM := c_X10_swing l D Ax P F B G dk 0 (Or.inl rfl) hlt hI
    rw [ocE_0 (show (oSwing 0 (F, B, G, dk)).1 = 0 from ite_0 rfl rfl)] at hM
    refine lv_aload_n C.1 C.2.1 dL_law_487 rfl (lv_at hl 3 rfl) ?_
    refine l_arg C hX hbl hS (lv_at hl 4 rfl) (lv_at hl 0 rfl) 1 (by decide) (by omega) hL dL_law_488 dL_law_489 dL_law_491 dL_law_492 dL_law_493 ?_
    refine lv_if_eq (tgt := 501) C.1 C.2.1 dL_law_494 (by decide) (fun _ => ?_) (fun h9 => absurd hx0 h9)
    refine lv_iconst (v := 0) C.1 C.2.1 dL_law_501 (by decide) ?_
    refine ct_ret (ct_V0 C hM Xe_bl (Or.inl rfl) tb_600 tb_1 ⟨Nat.le_of_ble_eq_true rfl, Nat.le_of_ble_eq_true rfl⟩ tb_597 ⟨by decide, by decide⟩ tb_599 tb_598 (x_recvS hw.1) (fun U hU hW => ⟨lw_ev hE hf hw.2.2.2 hS hU hW, x_post hw.1 hU hW⟩) (sig_code (C.2.2.2.2 _ tb_600)) (by show _ = some 1; decide +kernel) hl.1 rfl (Nat.le_of_ble_eq_true rfl) dL_law_502 ⟨by show cells + 2 ≤ 696559; omega, by show slots + 12 ≤ 7006426; omega⟩) hS (fun a h => hf.1 a h) (fun t H locs ht hvm hp hz hk hS => ?_)
    have hw := lw_x hf hw ht hvm hp hz hk
    refine lv_aload_n C.1 C.2.1 dL_law_505 rfl (lv_at hl 2 rfl) ?_
    refine l_arg C hX hbl hS (lv_at hl 4 rfl) (lv_at hl 0 rfl) 1 (by decide) (by omega) hL dL_law_506 dL_law_507 dL_law_509 dL_law_510 dL_law_511 ?_
    refine lv_if_eq (tgt := 519) C.1 C.2.1 dL_law_512 (by decide) (fun _ => ?_) (fun h9 => absurd hx0 h9)
    refine lv_iconst (v := 0) C.1 C.2.1 dL_law_519 (by decide) ?_
    refine ct_ret (ct_V0 C (c_X11_swing l D Am P qs cI F B G dk thr 0 hI (Or.inl rfl)) Mz_bl (Or.inl rfl) tb_860 tb_3 ⟨Nat.le_of_ble_eq_true rfl, Nat.le_of_ble_eq_true rfl⟩ tb_857 ⟨by decide, by decide⟩ tb_859 tb_858 hw.2.1.recv (fun U hU hW => hw.2.1.post hU hW) (sig_code (C.2.2.2.2 _ tb_860)) (by show _ = some 1; decide +kernel) hl.1 rfl (Nat.le_of_ble_eq_true rfl) dL_law_520 ⟨by show cells + 2 + 0 ≤ 696559; omega, by show slots + 12 + 0 ≤ 7006426; omega⟩) hS (fun a h => hf.2.1 a h) (fun t H locs ht hvm hp hz hk hS => ?_)
    have hw := lw_m hf hw ht hvm hp hz hk
    refine lv_icmp_eq (tgt := 678) C.1 C.2.1 dL_law_523 (by decide) (fun _ => ?_) (fun h9 => absurd rfl h9)
    exact kk _ _ _ _ ls ⟨P, (oSwing 0 (F, B, G, dk)).2.2.1, (oSwing 0 (F, B, G, dk)).2.2.2.1, (oSwing 0 (F, B, G, dk)).2.2.2.2.1, (oSwing 0 (F, B, G, dk)).2.2.2.2.2, _, _, oSwing_inv hI, hw, hS, hl⟩ (by show cells + 2 + 0 ≤ _; omega) (by show slots + 12 + 0 ≤ _; omega)
  · have hM := c_X10_swing l D Ax P F B G dk 1 (Or.inr rfl) hlt hI
    rw [ocE_0 (show (oSwing 1 (F, B, G, dk)).1 = 0 from ite_0 rfl rfl)] at hM
    refine lv_aload_n C.1 C.2.1 dL_law_487 rfl (lv_at hl 3 rfl) ?_
    refine l_arg C hX hbl hS (lv_at hl 4 rfl) (lv_at hl 0 rfl) 1 (by decide) (by omega) hL dL_law_488 dL_law_489 dL_law_491 dL_law_492 dL_law_493 ?_
    refine lv_if_eq (tgt := 501) C.1 C.2.1 dL_law_494 (by decide) (fun h9 => absurd h9 hx0) (fun _ => ?_)
    refine lv_iconst (v := 1) C.1 C.2.1 dL_law_497 (by decide) ?_
    refine lv_goto (tgt := 502) C.1 C.2.1 dL_law_498 (by decide) ?_
    refine ct_ret (ct_V0 C hM Xe_bl (Or.inl rfl) tb_600 tb_1 ⟨Nat.le_of_ble_eq_true rfl, Nat.le_of_ble_eq_true rfl⟩ tb_597 ⟨by decide, by decide⟩ tb_599 tb_598 (x_recvS hw.1) (fun U hU hW => ⟨lw_ev hE hf hw.2.2.2 hS hU hW, x_post hw.1 hU hW⟩) (sig_code (C.2.2.2.2 _ tb_600)) (by show _ = some 1; decide +kernel) hl.1 rfl (Nat.le_of_ble_eq_true rfl) dL_law_502 ⟨by show cells + 2 ≤ 696559; omega, by show slots + 12 ≤ 7006426; omega⟩) hS (fun a h => hf.1 a h) (fun t H locs ht hvm hp hz hk hS => ?_)
    have hw := lw_x hf hw ht hvm hp hz hk
    refine lv_aload_n C.1 C.2.1 dL_law_505 rfl (lv_at hl 2 rfl) ?_
    refine l_arg C hX hbl hS (lv_at hl 4 rfl) (lv_at hl 0 rfl) 1 (by decide) (by omega) hL dL_law_506 dL_law_507 dL_law_509 dL_law_510 dL_law_511 ?_
    refine lv_if_eq (tgt := 519) C.1 C.2.1 dL_law_512 (by decide) (fun h9 => absurd h9 hx0) (fun _ => ?_)
    refine lv_iconst (v := 1) C.1 C.2.1 dL_law_515 (by decide) ?_
    refine lv_goto (tgt := 520) C.1 C.2.1 dL_law_516 (by decide) ?_
    refine ct_ret (ct_V0 C (c_X11_swing l D Am P qs cI F B G dk thr 1 hI (Or.inr rfl)) Mz_bl (Or.inl rfl) tb_860 tb_3 ⟨Nat.le_of_ble_eq_true rfl, Nat.le_of_ble_eq_true rfl⟩ tb_857 ⟨by decide, by decide⟩ tb_859 tb_858 hw.2.1.recv (fun U hU hW => hw.2.1.post hU hW) (sig_code (C.2.2.2.2 _ tb_860)) (by show _ = some 1; decide +kernel) hl.1 rfl (Nat.le_of_ble_eq_true rfl) dL_law_520 ⟨by show cells + 2 + 0 ≤ 696559; omega, by show slots + 12 + 0 ≤ 7006426; omega⟩) hS (fun a h => hf.2.1 a h) (fun t H locs ht hvm hp hz hk hS => ?_)
    have hw := lw_m hf hw ht hvm hp hz hk
    refine lv_icmp_eq (tgt := 678) C.1 C.2.1 dL_law_523 (by decide) (fun _ => ?_) (fun h9 => absurd rfl h9)
    exact kk _ _ _ _ ls ⟨P, (oSwing 1 (F, B, G, dk)).2.2.1, (oSwing 1 (F, B, G, dk)).2.2.2.1, (oSwing 1 (F, B, G, dk)).2.2.2.2.1, (oSwing 1 (F, B, G, dk)).2.2.2.2.2, _, _, oSwing_inv hI, hw, hS, hl⟩ (by show cells + 2 + 0 ≤ _; omega) (by show slots + 12 + 0 ≤ _; omega)
