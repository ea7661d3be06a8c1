/-! THE LAW'S HELPERS: out, toll, enter; what stays true of the state over each call -/
def Ow (D : va_G) (cL qo : Nat) (v : Nat → Int64) (s : State) (H : Heap) : Prop := va_K D sCl [(cL, .long)] s ∧ va_P D sCl [(qo, .inl (cL, 1, .inr (.inl v)))] H
section Out
variable {p : Program} {l : Launch} {e : Env} {R : Room} {s u : State} {m : MethodId} {args : Array Value} {below : List Frame} {meth : Method} {c : Code} {H H1 : Heap} {locs : List Loc} {cells slots : Nat} {Q : State → Prop}
variable {cc : ByteArray} {nL index pc : Nat} {ls : Array Slot} {rest : List Value} {own : String} {D : va_G} {A : Nat → Prop} {cL qo : Nat} {v : Nat → Int64} {H0 : Heap}
theorem Ow.moved (h : Ow D cL qo v s H) (hvm : s.vm.Alike u.vm) : Ow D cL qo v u H := ⟨va_K.moved hvm h.1, h.2⟩
theorem Ow.kept (h : Ow D cL qo v s H) (hk : H1[qo]? = H[qo]?) : Ow D cL qo v s H1 := ⟨h.1, h.2.kept (fun k x hx => by
  have e1 : k < 1 := (List.getElem?_eq_some_iff.mp hx).1
  rw [show k = 0 by omega] at hx
  cases hx
  exact hk)⟩
theorem Ow.lt (h : Ow D cL qo v s H) : qo < H.size := vx_lt h.2 (k := 0) rfl
theorem o_last (C : CallFix p m c cc nL s args wB own) (ho : Ow D cL qo v s H) (hS : va_S A H0 H locs) (hA : A qo) {x : Int64} (hdg : decode cc pc = .ok (.lastore, 1))
    (kk : ∀ (H1 : Heap) (locs1 : List Loc), Ow D cL qo (vp_updL v 0 x) s H1 → (∀ a : Nat, a ≠ qo → H1[a]? = H[a]?) → va_S A H0 H1 locs1 → W p l e R s m args below meth c H1 locs1 cells slots Q (F0 m (pc + 1) ls rest)) : W p l e R s m args below meth c H locs cells slots Q (F0 m pc ls (.long x :: .int 0 :: .ref qo :: rest)) := by
  refine W.last C.1 C.2.1 (ho.2 0 _ rfl) ((ho.1.2 0 _ rfl).1 1 (fun j => .long (v j))) (fun q => by cases q) (by show ¬ ((0 : Int32) < 0 ∨ (arrV _ _ _).slots.size ≤ _); rw [arrV_size]; exact (show ¬ ((0 : Int32) < 0 ∨ 1 ≤ (0 : Int32).toNatClampNeg) by decide)) rfl rfl hdg fun H1 e z oq => ?_
  refine kk H1 _ ⟨ho.1, fun k y hy => ?_⟩ oq (hS.put z oq hA)
  have e1 : k < 1 := (List.getElem?_eq_some_iff.mp hy).1
  rw [show k = 0 by omega] at hy
  cases hy
  show H1[qo]? = some (vp_cell _ _)
  rw [e]
  rw [vp_cell_l, vp_cell_l, arrV_store]
  congr 2
  funext q
  by_cases hq : q = (0 : Int32).toNatClampNeg
  · subst hq
    simp [updV, vp_updL]
  · have hq0 : q ≠ 0 := hq
    simp [updV, vp_updL, hq0]
theorem o_lald (C : CallFix p m c cc nL s args wB own) (ho : Ow D cL qo v s H) (hdg : decode cc pc = .ok (.laload, 1))
    (kk : W p l e R s m args below meth c H locs cells slots Q (F0 m (pc + 1) ls (.long (v 0) :: rest))) : W p l e R s m args below meth c H locs cells slots Q (F0 m pc ls (.int 0 :: .ref qo :: rest)) := va_lald C.1 C.2.1 ho.1 ho.2 0 0 rfl rfl (by unfold vp_in; decide) hdg kk
end Out
section LawInv
variable {P : SwP} {F : Nat → Nat → Int32} {B G : Nat → Int32} {dk : List Nat} {x h w : Int32}
theorem onV_inv {f : Nat → R3} (hI : Inv P (F, B, G, dk)) (hf : ∀ j, j < pn P → Inv P (f j).2.2) : Inv P (onV (pn P) x (F, B, G, dk) f).2.2 := by
  unfold onV
  cases hv : vAt (pn P) x with
  | none => exact hI
  | some j => exact hf j (vAt_lt hv)
theorem oWeight_inv (hI : Inv P (F, B, G, dk)) : Inv P (oWeight (pk P) (pn P) x (F, B, G, dk)).2.2 := onV_inv hI (fun j hj => hI.cnt rfl rfl)
theorem oFits_inv (hI : Inv P (F, B, G, dk)) : Inv P (oFits (pk P) (pn P) x (F, B, G, dk)).2.2 := onV_inv hI (fun j hj => hI.cnt rfl rfl)
theorem oRebate_inv (hI : Inv P (F, B, G, dk)) : Inv P (oRebate (pk P) (pn P) x (F, B, G, dk)).2.2 := onV_inv hI (fun j hj => hI.cnt rfl rfl)
theorem oToll_inv (hI : Inv P (F, B, G, dk)) : Inv P (oToll (pk P) (pn P) x h (F, B, G, dk)).2.2 := onV_inv hI (fun j hj => by
  split
  · exact hI
  · split
    · exact hI.cnt rfl rfl
    · exact hI.cnt rfl rfl)
theorem oEnter_inv (hI : Inv P (F, B, G, dk)) : Inv P (oEnter (pk P) (pn P) x h (F, B, G, dk)).2.2 := onV_inv hI (fun j hj => by
  split
  · exact hI
  · split
    · exact hI
    · next h6 => exact eN_inv hI hj (fun z => h6 (hI.2.2.1 j z)))
theorem oLeave_inv (hI : Inv P (F, B, G, dk)) : Inv P (oLeave (pk P) (pn P) x (F, B, G, dk)).2.2 := onV_inv hI (fun j hj => by
  split
  · exact hI
  · exact lR_inv hI hj)
theorem oBill_inv (hI : Inv P (F, B, G, dk)) : Inv P (oBill (pk P) (pn P) x h (F, B, G, dk)).2.2 := onV_inv hI (fun j hj => by
  split
  · exact hI
  · split
    · exact hI.cnt rfl rfl
    · exact hI)
theorem oMonth_inv (hI : Inv P (F, B, G, dk)) : Inv P (oMonth (pk P) (pn P) x h (F, B, G, dk)).2.2 := onV_inv hI (fun j hj => by
  split
  · exact hI
  · split
    · exact hI.cnt rfl rfl
    · exact hI)
theorem oTell_inv (hI : Inv P (F, B, G, dk)) : Inv P (oTell (pn P) x w (F, B, G, dk)).2.2 := onV_inv hI (fun j hj => hI)
theorem oSwing_inv (hI : Inv P (F, B, G, dk)) : Inv P (oSwing x (F, B, G, dk)).2.2 := by
  unfold oSwing
  split
  · exact hI
  · next hq =>
    obtain ⟨i1, i2, i3, i4, i5, i6, i7, i8⟩ := hI
    refine ⟨i1, ?_, i3, i4, ?_, i6, i7, i8⟩
    · by_cases h0 : x = 0
      · exact Or.inr (if_pos h0)
      · exact Or.inl (if_neg h0)
    · intro h4
      by_cases h0 : x = 0
      · exact absurd ((if_pos h0).symm.trans h4) (by decide)
      · exact Decidable.not_not.mp (fun z => hq ⟨h0, z⟩)
theorem oRush_inv (hI : Inv P (F, B, G, dk)) : Inv P (oRush (pk P) (pn P) h (F, B, G, dk)).2.2 := by
  unfold oRush
  split
  · exact hI
  · exact rsh_inv (pn P) 0 0 (F, B, G, dk) (by omega) hI
theorem oClear_inv (hI : Inv P (F, B, G, dk)) : Inv P (oClear (pk P) (F, B, G, dk)).2.2 := clr_inv _ (F, B, G, dk) hI
theorem add_inv2 {sz : Nat} {ki ma lo sh : Int32} (hI : Inv P (F, B, G, dk)) : Inv (addP P sz ki ma lo sh) (addF (pn P) F ki ma lo sh, B, G, dk) := by
  unfold addP addF
  cases ho : addO ki ma lo sh with
  | true => rw [if_pos rfl, if_pos rfl]; exact hI
  | false =>
    rw [if_neg (show ¬ (false = true) by decide), if_neg (show ¬ (false = true) by decide)]
    by_cases hn : pn P = 24
    · rw [if_pos hn, if_pos hn]; exact hI
    · rw [if_neg hn, if_neg hn]
      obtain ⟨k, hk, rfl⟩ := add_k (addO_f ho).1
      rw [nI_clamp (by omega)]
      exact add_inv hI ho hn hk rfl
theorem addP_S {sz : Nat} {ki ma lo sh : Int32} : pS (addP P sz ki ma lo sh) = pS P := by
  unfold addP
  split
  · rfl
  · split <;> rfl
theorem oToll_1 : (oToll (pk P) (pn P) x h (F, B, G, dk)).1 ≠ 1 := by
  unfold oToll onV
  cases hv : vAt (pn P) x with
  | none => exact (show (0 : Nat) ≠ 1 by decide)
  | some j =>
    dsimp only
    split
    · exact (show (0 : Nat) ≠ 1 by decide)
    · split
      · exact (show (2 : Nat) ≠ 1 by decide)
      · exact (show (0 : Nat) ≠ 1 by decide)
theorem oEnter_3 : (oEnter (pk P) (pn P) x h (F, B, G, dk)).1 < 3 := by
  unfold oEnter onV
  cases hv : vAt (pn P) x with
  | none => exact (show (0 : Nat) < 3 by decide)
  | some j =>
    dsimp only
    split
    · exact (show (0 : Nat) < 3 by decide)
    · split
      · exact (show (0 : Nat) < 3 by decide)
      · exact eN_3
end LawInv
/-- what a helper starts from, and what it leaves -/
abbrev Lp (D : va_G) (A : Nat → Prop) (P : SwP) (F : Nat → Nat → Int32) (B G : Nat → Int32) (dk : List Nat) (cL qo : Nat) (v : Nat → Int64) : State → Prop := fun U => Ev A U ∧ Xp D A P F B G dk U ∧ Ow D cL qo v U U.heap
theorem Lp_bl {D : va_G} {A : Nat → Prop} {P : SwP} {F : Nat → Nat → Int32} {B G : Nat → Int32} {dk : List Nat} {cL qo : Nat} {v : Nat → Int64} : Bl (Lp D A P F B G dk cL qo v) := fun U g mk a h => ⟨h.1.same (U := U.calling g mk a) rfl rfl, Xp_bl U g mk a h.2.1, h.2.2.moved (u := U.calling g mk a) (Vm.Alike.refl U.vm)⟩
theorem Ev.same0 {A : Nat → Prop} {s U : State} (h : Ev A s) (hU : U.heap = s.heap) (hW : s.WarmedH U.vm) : Ev A U := h.go (locs := []) va_S.rf hU hW
set_option maxHeartbeats 400000 in
set_option maxRecDepth 100000 in
/-- the law's toll -/
theorem c_L_toll (l : Launch) (D : va_G) (A : Nat → Prop) (P : SwP) (F : Nat → Nat → Int32) (B G : Nat → Int32) (dk : List Nat) (cL qo : Nat) (v : Nat → Int64) (x h : Int32) (hlt : l.stackTraces = false) (hI : Inv P (F, B, G, dk)) (hqo : ¬ A qo) : Ct l yL_toll (.codeWith yL_toll cL_toll 5 (some .int) [((0 : Nat), (10 : Nat), (13 : Nat), (13 : Nat))]) ({ frames := 10, cells := 2, slots := 12, locals := 230 }) (fun a => A a ∨ a = qo) [.ref (pS P), .int x, .int h, .ref qo] (Lp D A P F B G dk cL qo v) (.inl (some (.int (if (oToll (pk P) (pn P) x h (F, B, G, dk)).1 = 0 then 0 else 1)))) (fun U => Xp D A P (oToll (pk P) (pn P) x h (F, B, G, dk)).2.2.1 (oToll (pk P) (pn P) x h (F, B, G, dk)).2.2.2.1 (oToll (pk P) (pn P) x h (F, B, G, dk)).2.2.2.2.1 (oToll (pk P) (pn P) x h (F, B, G, dk)).2.2.2.2.2 U ∧ ∃ v2 : Nat → Int64, ((oToll (pk P) (pn P) x h (F, B, G, dk)).1 = 0 → v2 0 = (oToll (pk P) (pn P) x h (F, B, G, dk)).2.1.toInt64) ∧ Ow D cL qo v2 U U.heap) := by
  refine ct_mkH (by decide) (Nat.le_of_ble_eq_true rfl) (fun p e s m below meth c ls C hr hlocks htab hP hl => ?_)
  obtain ⟨hE, hw, ho⟩ := hP
  have hS : va_S (fun a => A a ∨ a = qo) s.heap s.heap [] := va_S.rf
  have hl : lv_has ls 5 [(0, .ref (pS P)), (1, .int x), (2, .int h), (3, .ref qo)] := hl
  refine lv_aload_n C.1 C.2.1 dL_toll_0 rfl (lv_at hl 3 rfl) ?_
  refine lv_iconst (v := 0) C.1 C.2.1 dL_toll_1 (by decide) ?_
  refine lv_aload_n C.1 C.2.1 dL_toll_2 rfl (lv_at hl 0 rfl) ?_
  refine lv_iload_n C.1 C.2.1 dL_toll_3 rfl (lv_at hl 1 rfl) ?_
  refine lv_iload_n C.1 C.2.1 dL_toll_4 rfl (lv_at hl 2 rfl) ?_
  refine ct_go (ct_V0 C (c_X10_toll l D A P F B G dk x h hlt hI) Xe_bl (Or.inl rfl) tb_692 tb_1 ⟨Nat.le_of_ble_eq_true rfl, Nat.le_of_ble_eq_true rfl⟩ tb_689 ⟨by decide, by decide⟩ tb_691 tb_690 (x_recvS hw) (fun U hU hW => ⟨hE.same0 hU hW, x_post hw hU hW⟩) (sig_code (C.2.2.2.2 _ tb_692)) (by show _ = some 2; decide +kernel) hl.1 rfl (Nat.le_of_ble_eq_true rfl) dL_toll_5 ⟨Nat.le_of_ble_eq_true rfl, Nat.le_of_ble_eq_true rfl⟩) hS (fun _ h => Or.inl h) (fun E hoc ce q9 t H locs ht hvm hw _ hk hS hce hcv hcls => ?_) (fun v9 hoc t H locs ht hvm hw _ hk hS => ?_)
  · have hw := x_back hw ht hvm
    have ho := ho.kept (hk qo ho.lt hqo)
    have hne : ¬ (oToll (pk P) (pn P) x h (F, B, G, dk)).1 = 0 := fun z => by rw [ocE_0 z] at hoc; cases hoc
    rcases ocE_r hoc with ⟨q1, rfl⟩ | ⟨q0, q1, rfl⟩
    · exact absurd q1 oToll_1
    · refine vx_catch C.2.2.2.1 [] ⟨0, 10, 13, 13⟩ [] (by rw [htab]; rfl) (fun z hz => by cases hz) (by decide) (by decide) (C.2.2.2.2 _ tb_688) (va_Nw.use rfl hE.2.2.1.2.1) hce hcv hcls ?_
      refine lv_astore (lv' := [(4, .ref q9), (0, .ref (pS P)), (1, .int x), (2, .int h), (3, .ref qo)]) C.1 C.2.1 dL_toll_13 hl (by decide) rfl (fun ls hl => ?_)
      refine lv_iconst (v := 1) C.1 C.2.1 dL_toll_15 (by decide) ?_
      exact ct_i C hr hlocks (by rw [if_neg hne] <;> rfl) (fun t ht hW => ⟨x_post hw ht hW, _, fun z => absurd z hne, by rw [ht]; exact ho.moved hW.alike⟩) hS (Nat.le_of_ble_eq_true rfl) (Nat.le_of_ble_eq_true rfl) dL_toll_16
  · have hw := x_back hw ht hvm
    have ho := ho.kept (hk qo ho.lt hqo)
    obtain ⟨h0, rfl⟩ := ocE_l hoc
    refine lv_i2l C.1 C.2.1 dL_toll_8 rfl ?_
    refine o_last C ho hS (Or.inr rfl) dL_toll_9 (fun H1 locs1 ho1 hk1 hS => ?_)
    have hw : XwR D A P _ _ _ _ _ s H1 := ⟨hw.1, hw.2.1.kept (fun k y hy => hk1 y.1 (fun z => hqo (by rw [← z]; exact hw.2.2.2 k y hy))), hw.2.2⟩
    refine lv_goto (tgt := 17) C.1 C.2.1 dL_toll_10 (by decide) ?_
    refine lv_iconst (v := 0) C.1 C.2.1 dL_toll_17 (by decide) ?_
    exact ct_i C hr hlocks (by rw [h0]; rfl) (fun t ht hW => ⟨x_post hw ht hW, _, fun _ => rfl, by rw [ht]; exact ho1.moved hW.alike⟩) hS (Nat.le_of_ble_eq_true rfl) (Nat.le_of_ble_eq_true rfl) dL_toll_18
set_option maxHeartbeats 400000 in
set_option maxRecDepth 100000 in
/-- the law's enter -/
theorem c_L_enter (l : Launch) (D : va_G) (A : Nat → Prop) (P : SwP) (F : Nat → Nat → Int32) (B G : Nat → Int32) (dk : List Nat) (cL qo : Nat) (v : Nat → Int64) (x h : Int32) (hlt : l.stackTraces = false) (hI : Inv P (F, B, G, dk)) (hqo : ¬ A qo) : Ct l yL_enter (.codeWith yL_enter cL_enter 5 (some .int) [((0 : Nat), (10 : Nat), (13 : Nat), (18 : Nat)), ((0 : Nat), (10 : Nat), (17 : Nat), (13 : Nat))]) ({ frames := 10, cells := 2, slots := 12, locals := 230 }) (fun a => A a ∨ a = qo) [.ref (pS P), .int x, .int h, .ref qo] (Lp D A P F B G dk cL qo v) (.inl (some (.int (nI (oEnter (pk P) (pn P) x h (F, B, G, dk)).1)))) (fun U => Xp D A P (oEnter (pk P) (pn P) x h (F, B, G, dk)).2.2.1 (oEnter (pk P) (pn P) x h (F, B, G, dk)).2.2.2.1 (oEnter (pk P) (pn P) x h (F, B, G, dk)).2.2.2.2.1 (oEnter (pk P) (pn P) x h (F, B, G, dk)).2.2.2.2.2 U ∧ ∃ v2 : Nat → Int64, ((oEnter (pk P) (pn P) x h (F, B, G, dk)).1 = 0 → v2 0 = (oEnter (pk P) (pn P) x h (F, B, G, dk)).2.1.toInt64) ∧ Ow D cL qo v2 U U.heap) := by
  refine ct_mkH (by decide) (Nat.le_of_ble_eq_true rfl) (fun p e s m below meth c ls C hr hlocks htab hP hl => ?_)
  obtain ⟨hE, hw, ho⟩ := hP
  have hS : va_S (fun a => A a ∨ a = qo) s.heap s.heap [] := va_S.rf
  have hl : lv_has ls 5 [(0, .ref (pS P)), (1, .int x), (2, .int h), (3, .ref qo)] := hl
  refine lv_aload_n C.1 C.2.1 dL_enter_0 rfl (lv_at hl 3 rfl) ?_
  refine lv_iconst (v := 0) C.1 C.2.1 dL_enter_1 (by decide) ?_
  refine lv_aload_n C.1 C.2.1 dL_enter_2 rfl (lv_at hl 0 rfl) ?_
  refine lv_iload_n C.1 C.2.1 dL_enter_3 rfl (lv_at hl 1 rfl) ?_
  refine lv_iload_n C.1 C.2.1 dL_enter_4 rfl (lv_at hl 2 rfl) ?_
  refine ct_go (ct_V0 C (c_X10_enter l D A P F B G dk x h hlt hI) Xe_bl (Or.inl rfl) tb_701 tb_1 ⟨Nat.le_of_ble_eq_true rfl, Nat.le_of_ble_eq_true rfl⟩ tb_698 ⟨by decide, by decide⟩ tb_700 tb_699 (x_recvS hw) (fun U hU hW => ⟨hE.same0 hU hW, x_post hw hU hW⟩) (sig_code (C.2.2.2.2 _ tb_701)) (by show _ = some 2; decide +kernel) hl.1 rfl (Nat.le_of_ble_eq_true rfl) dL_enter_5 ⟨Nat.le_of_ble_eq_true rfl, Nat.le_of_ble_eq_true rfl⟩) hS (fun _ h => Or.inl h) (fun E hoc ce q9 t H locs ht hvm hw _ hk hS hce hcv hcls => ?_) (fun v9 hoc t H locs ht hvm hw _ hk hS => ?_)
  · have hw := x_back hw ht hvm
    have ho := ho.kept (hk qo ho.lt hqo)
    have hne : ¬ (oEnter (pk P) (pn P) x h (F, B, G, dk)).1 = 0 := fun z => by rw [ocE_0 z] at hoc; cases hoc
    rcases ocE_r hoc with ⟨q1, rfl⟩ | ⟨q0, q1, rfl⟩
    · refine vx_catch C.2.2.2.1 [] ⟨0, 10, 13, 18⟩ [⟨0, 10, 17, 13⟩] (by rw [htab]; rfl) (fun z hz => by cases hz) (by decide) (by decide) (C.2.2.2.2 _ tb_697) (va_Nw.use rfl hE.2.2.1.1) hce hcv hcls ?_
      refine lv_astore (lv' := [(4, .ref q9), (0, .ref (pS P)), (1, .int x), (2, .int h), (3, .ref qo)]) C.1 C.2.1 dL_enter_13 hl (by decide) rfl (fun ls hl => ?_)
      refine lv_iconst (v := 1) C.1 C.2.1 dL_enter_15 (by decide) ?_
      exact ct_i C hr hlocks (by rw [q1] <;> rfl) (fun t ht hW => ⟨x_post hw ht hW, _, fun z => absurd z hne, by rw [ht]; exact ho.moved hW.alike⟩) hS (Nat.le_of_ble_eq_true rfl) (Nat.le_of_ble_eq_true rfl) dL_enter_16
    · refine vx_catch C.2.2.2.1 [⟨0, 10, 13, 18⟩] ⟨0, 10, 17, 13⟩ [] (by rw [htab]; rfl) (fun z hz => by rcases List.mem_singleton.mp hz with rfl; exact Or.inr ⟨by decide, _, C.2.2.2.2 _ tb_697, hE.2.2.1.2.2⟩) (by decide) (by decide) (C.2.2.2.2 _ tb_688) (va_Nw.use rfl hE.2.2.1.2.1) hce hcv hcls ?_
      refine lv_astore (lv' := [(4, .ref q9), (0, .ref (pS P)), (1, .int x), (2, .int h), (3, .ref qo)]) C.1 C.2.1 dL_enter_17 hl (by decide) rfl (fun ls hl => ?_)
      have e3 := oEnter_3 (P := P) (F := F) (B := B) (G := G) (dk := dk) (x := x) (h := h)
      refine lv_iconst (v := 2) C.1 C.2.1 dL_enter_19 (by decide) ?_
      exact ct_i C hr hlocks (by rw [show (oEnter (pk P) (pn P) x h (F, B, G, dk)).1 = 2 by omega] <;> rfl) (fun t ht hW => ⟨x_post hw ht hW, _, fun z => absurd z hne, by rw [ht]; exact ho.moved hW.alike⟩) hS (Nat.le_of_ble_eq_true rfl) (Nat.le_of_ble_eq_true rfl) dL_enter_20
  · have hw := x_back hw ht hvm
    have ho := ho.kept (hk qo ho.lt hqo)
    obtain ⟨h0, rfl⟩ := ocE_l hoc
    refine lv_i2l C.1 C.2.1 dL_enter_8 rfl ?_
    refine o_last C ho hS (Or.inr rfl) dL_enter_9 (fun H1 locs1 ho1 hk1 hS => ?_)
    have hw : XwR D A P _ _ _ _ _ s H1 := ⟨hw.1, hw.2.1.kept (fun k y hy => hk1 y.1 (fun z => hqo (by rw [← z]; exact hw.2.2.2 k y hy))), hw.2.2⟩
    refine lv_goto (tgt := 21) C.1 C.2.1 dL_enter_10 (by decide) ?_
    refine lv_iconst (v := 0) C.1 C.2.1 dL_enter_21 (by decide) ?_
    exact ct_i C hr hlocks (by rw [h0]; rfl) (fun t ht hW => ⟨x_post hw ht hW, _, fun _ => rfl, by rw [ht]; exact ho1.moved hW.alike⟩) hS (Nat.le_of_ble_eq_true rfl) (Nat.le_of_ble_eq_true rfl) dL_enter_22
