/-! ROWS over the object's world: one for each kind of access that the classes' code does. -/
theorem tx4_decl {k : Nat} (h : k < 10) : (TX4 k).1 = "SwingBridge$Cart" := by
  rcases (show k = 0 ∨ k = 1 ∨ k = 2 ∨ k = 3 ∨ k = 4 ∨ k = 5 ∨ k = 6 ∨ k = 7 ∨ k = 8 ∨ k = 9 by omega) with rfl | rfl | rfl | rfl | rfl | rfl | rfl | rfl | rfl | rfl <;> rfl
theorem tx4_put {k : Nat} (h5 : 5 ≤ k) (h : k < 10) : (TX4 k).2.2.2 = false ∧ parseFieldDescriptor (TX4 k).2.2.1 = some .int := by
  rcases (show k = 5 ∨ k = 6 ∨ k = 7 ∨ k = 8 ∨ k = 9 by omega) with rfl | rfl | rfl | rfl | rfl <;> exact ⟨rfl, by decide +kernel⟩
section XRows
variable {p : Program} {l : Launch} {e : Env} {R : Room} {s : State} {m : MethodId} {args : Array Value} {below : List Frame} {meth : Method} {c : Code} {H : Heap} {locs : List Loc} {cells slots : Nat} {Q : State → Prop}
variable {cc : ByteArray} {nL index pc : Nat} {ls : Array Slot} {rest : List Value} {own ref : String} {D : va_G} {A : Nat → Prop} {P : SwP} {F : Nat → Nat → Int32} {B G : Nat → Int32} {n : Int32} {fd : Nat → Option Nat} {i : Nat} {H0 : Heap}
/-- a vehicle's field -/
theorem xv_get (C : CallFix p m c cc nL s args wB own) (hw : XwR D A P F B G n fd s H) (hi : i < pn P) (hk : pk P i < 9) (k : Nat) (hk10 : k < 10) (hl : Cond.fieldLink own index ref (TX4 k).2.1 (TX4 k).2.2.1 ∈ wB) (hs : ref = "SwingBridge$Cart" ∨ Cond.sameField ref "SwingBridge$Cart" (TX4 k).2.1 (TX4 k).2.2.1 ∈ wB) {v : Value} (hv : (vfs P F i)[k]? = some v) (hdg : decode cc pc = .ok (.getfield index, 3))
    (kk : W p l e R s m args below meth c H locs cells slots Q (F0 m (pc + 3) ls (v :: rest))) : W p l e R s m args below meth c H locs cells slots Q (F0 m pc ls (.ref (pa P i) :: rest)) :=
  va_get (D := D) (ci := pk P i) (C := cN (pk P i)) (T := TX4) (N := 10) (ref := ref) C.1 C.2.1 C.2.2.2.2 (inK hk) C.2.2.2.1 hw.1 hw.2.1 (5 + i) (xws_v hi) (sCl_k hk) k hk10 (C.2.2.2.2 _ hl) (fun x hx => by
    rw [tx4_decl hk10] at hx
    rcases hs with rfl | hs
    · exact hx
    · exact u_same (C.2.2.2.2 _ hs) x hx) hv hdg kk
theorem xv_put (C : CallFix p m c cc nL s args wB own) (hw : XwR D A P F B G n fd s H) (hS : va_S A H0 H locs) (hi : i < pn P) (hk : pk P i < 9) (k : Nat) (h5 : 5 ≤ k) (hk10 : k < 10) (hl : Cond.fieldLink own index ref (TX4 k).2.1 (TX4 k).2.2.1 ∈ wB) (hs : ref = "SwingBridge$Cart" ∨ Cond.sameField ref "SwingBridge$Cart" (TX4 k).2.1 (TX4 k).2.2.1 ∈ wB) {v : Int32} (hdg : decode cc pc = .ok (.putfield index, 3))
    (kk : ∀ (H1 : Heap) (locs1 : List Loc), XwR D A P (uF F i k v) B G n fd s H1 → va_S A H0 H1 locs1 → W p l e R s m args below meth c H1 locs1 cells slots Q (F0 m (pc + 3) ls rest)) : W p l e R s m args below meth c H locs cells slots Q (F0 m pc ls (.int v :: .ref (pa P i) :: rest)) := by
  refine va_put (D := D) (ci := pk P i) (v := .int v) (ty := .int) (C := cN (pk P i)) (T := TX4) (N := 10) (ref := ref) C.1 C.2.1 C.2.2.2.2 (inK hk) tyX4 tyX4_ok nmX4 C.2.2.2.1 hw.1 hw.2.1 hw.2.2 hS (5 + i) (xws_v hi) (sCl_k hk) k hk10 (C.2.2.2.2 _ hl) (fun x hx => by
    rw [tx4_decl hk10] at hx
    rcases hs with rfl | hs
    · exact hx
    · exact u_same (C.2.2.2.2 _ hs) x hx) (tx4_put h5 hk10).1 (tx4_put h5 hk10).2 rfl rfl (by simpa [vfs] using hk10) hdg (fun H1 locs1 h1 h2 h3 => ?_)
  rw [xws_set_v hi h5 hk10] at h1 h2
  exact kk H1 locs1 ⟨hw.1, h1, h2⟩ h3
/-- the bridge's fields -/
theorem xb_get (C : CallFix p m c cc nL s args wB own) (hw : XwR D A P F B G n fd s H) (k : Nat) (hk7 : k < 7) (hl : Cond.fieldLink own index (TX0 k).1 (TX0 k).2.1 (TX0 k).2.2.1 ∈ wB) {v : Value} (hv : (bfs P n G)[k]? = some v) (hdg : decode cc pc = .ok (.getfield index, 3))
    (kk : W p l e R s m args below meth c H locs cells slots Q (F0 m (pc + 3) ls (v :: rest))) : W p l e R s m args below meth c H locs cells slots Q (F0 m pc ls (.ref (pB P) :: rest)) :=
  va_get (D := D) (ci := 9) (C := RX0) (T := TX0) (N := 7) (ref := (TX0 k).1) C.1 C.2.1 C.2.2.2.2 inX0 C.2.2.2.1 hw.1 hw.2.1 1 rfl rfl k hk7 (C.2.2.2.2 _ hl) (fun x hx => hx) hv hdg kk
theorem xb_puti (C : CallFix p m c cc nL s args wB own) (hw : XwR D A P F B G n fd s H) (hS : va_S A H0 H locs) (k : Nat) (hk7 : k = 3 ∨ k = 5 ∨ k = 6) (hl : Cond.fieldLink own index (TX0 k).1 (TX0 k).2.1 (TX0 k).2.2.1 ∈ wB) {v : Int32} (hdg : decode cc pc = .ok (.putfield index, 3))
    (kk : ∀ (H1 : Heap) (locs1 : List Loc), XwR D A P F B (upd G k v) n fd s H1 → va_S A H0 H1 locs1 → W p l e R s m args below meth c H1 locs1 cells slots Q (F0 m (pc + 3) ls rest)) : W p l e R s m args below meth c H locs cells slots Q (F0 m pc ls (.int v :: .ref (pB P) :: rest)) := by
  refine va_put (D := D) (ci := 9) (v := .int v) (ty := .int) (C := RX0) (T := TX0) (N := 7) (ref := (TX0 k).1) C.1 C.2.1 C.2.2.2.2 inX0 tyX0 tyX0_ok nmX0 C.2.2.2.1 hw.1 hw.2.1 hw.2.2 hS 1 rfl rfl k (by omega) (C.2.2.2.2 _ hl) (fun x hx => hx) (by rcases hk7 with rfl | rfl | rfl <;> rfl) (by rcases hk7 with rfl | rfl | rfl <;> decide +kernel) rfl rfl (by rcases hk7 with rfl | rfl | rfl <;> exact Nat.le_of_ble_eq_true rfl) hdg (fun H1 locs1 h1 h2 h3 => ?_)
  have he : (xws P F B G n fd).set 1 (pB P, .inr (9, (bfs P n G).set k (.int v))) = xws P F B (upd G k v) n fd := by
    rcases hk7 with rfl | rfl | rfl <;> rfl
  rw [he] at h1 h2
  exact kk H1 locs1 ⟨hw.1, h1, h2⟩ h3
theorem xb_putz (C : CallFix p m c cc nL s args wB own) (hw : XwR D A P F B G n fd s H) (hS : va_S A H0 H locs) (hl : Cond.fieldLink own index (TX0 4).1 (TX0 4).2.1 (TX0 4).2.2.1 ∈ wB) {v : Int32} (hv : v = 0 ∨ v = 1) (hdg : decode cc pc = .ok (.putfield index, 3))
    (kk : ∀ (H1 : Heap) (locs1 : List Loc), XwR D A P F B (upd G 4 v) n fd s H1 → va_S A H0 H1 locs1 → W p l e R s m args below meth c H1 locs1 cells slots Q (F0 m (pc + 3) ls rest)) : W p l e R s m args below meth c H locs cells slots Q (F0 m pc ls (.int v :: .ref (pB P) :: rest)) := by
  refine va_put (D := D) (ci := 9) (v := .int v) (ty := .boolean) (C := RX0) (T := TX0) (N := 7) (ref := (TX0 4).1) C.1 C.2.1 C.2.2.2.2 inX0 tyX0 tyX0_ok nmX0 C.2.2.2.1 hw.1 hw.2.1 hw.2.2 hS 1 rfl rfl 4 (by omega) (C.2.2.2.2 _ hl) (fun x hx => hx) rfl (by decide +kernel) (by rcases hv with rfl | rfl <;> rfl) (by rcases hv with rfl | rfl <;> rfl) (Nat.le_of_ble_eq_true rfl) hdg (fun H1 locs1 h1 h2 h3 => ?_)
  have he : (xws P F B G n fd).set 1 (pB P, .inr (9, (bfs P n G).set 4 (.int v))) = xws P F B (upd G 4 v) n fd := rfl
  rw [he] at h1 h2
  exact kk H1 locs1 ⟨hw.1, h1, h2⟩ h3
theorem xb_putn (C : CallFix p m c cc nL s args wB own) (hw : XwR D A P F B G n fd s H) (hS : va_S A H0 H locs) (hl : Cond.fieldLink own index (TX0 2).1 (TX0 2).2.1 (TX0 2).2.2.1 ∈ wB) {v : Int32} (hdg : decode cc pc = .ok (.putfield index, 3))
    (kk : ∀ (H1 : Heap) (locs1 : List Loc), XwR D A P F B G v fd s H1 → va_S A H0 H1 locs1 → W p l e R s m args below meth c H1 locs1 cells slots Q (F0 m (pc + 3) ls rest)) : W p l e R s m args below meth c H locs cells slots Q (F0 m pc ls (.int v :: .ref (pB P) :: rest)) := by
  refine va_put (D := D) (ci := 9) (v := .int v) (ty := .int) (C := RX0) (T := TX0) (N := 7) (ref := (TX0 2).1) C.1 C.2.1 C.2.2.2.2 inX0 tyX0 tyX0_ok nmX0 C.2.2.2.1 hw.1 hw.2.1 hw.2.2 hS 1 rfl rfl 2 (by omega) (C.2.2.2.2 _ hl) (fun x hx => hx) rfl (by decide +kernel) rfl rfl (Nat.le_of_ble_eq_true rfl) hdg (fun H1 locs1 h1 h2 h3 => ?_)
  have he : (xws P F B G n fd).set 1 (pB P, .inr (9, (bfs P n G).set 2 (.int v))) = xws P F B G v fd := rfl
  rw [he] at h1 h2
  exact kk H1 locs1 ⟨hw.1, h1, h2⟩ h3
/-- the object's own fields -/
theorem xs_get (C : CallFix p m c cc nL s args wB own) (hw : XwR D A P F B G n fd s H) (k : Nat) (hk : k < 3) (hl : Cond.fieldLink own index (TX10 k).1 (TX10 k).2.1 (TX10 k).2.2.1 ∈ wB) {v : Value} (hv : ([.ref (pB P), .ref (pV P), .int (nI (pn P))] : List Value)[k]? = some v) (hdg : decode cc pc = .ok (.getfield index, 3))
    (kk : W p l e R s m args below meth c H locs cells slots Q (F0 m (pc + 3) ls (v :: rest))) : W p l e R s m args below meth c H locs cells slots Q (F0 m pc ls (.ref (pS P) :: rest)) :=
  va_get (D := D) (ci := 10) (C := RX10) (T := TX10) (N := 3) (ref := (TX10 k).1) C.1 C.2.1 C.2.2.2.2 inX10 C.2.2.2.1 hw.1 hw.2.1 0 rfl rfl k hk (C.2.2.2.2 _ hl) (fun x hx => hx) hv hdg kk
/-- arrays: lengths, loads, stores -/
theorem xV_len (C : CallFix p m c cc nL s args wB own) (hw : XwR D A P F B G n fd s H) (hdg : decode cc pc = .ok (.arraylength, 1)) (kk : W p l e R s m args below meth c H locs cells slots Q (F0 m (pc + 1) ls (.int 24 :: rest))) : W p l e R s m args below meth c H locs cells slots Q (F0 m pc ls (.ref (pV P) :: rest)) :=
  va_alen C.1 C.2.1 hw.1 hw.2.1 2 0 rfl rfl rfl hdg kk
theorem xD_len (C : CallFix p m c cc nL s args wB own) (hw : XwR D A P F B G n fd s H) (hdg : decode cc pc = .ok (.arraylength, 1)) (kk : W p l e R s m args below meth c H locs cells slots Q (F0 m (pc + 1) ls (.int 24 :: rest))) : W p l e R s m args below meth c H locs cells slots Q (F0 m pc ls (.ref (pD P) :: rest)) :=
  va_alen C.1 C.2.1 hw.1 hw.2.1 3 0 rfl rfl rfl hdg kk
theorem xN_len (C : CallFix p m c cc nL s args wB own) (hw : XwR D A P F B G n fd s H) (hdg : decode cc pc = .ok (.arraylength, 1)) (kk : W p l e R s m args below meth c H locs cells slots Q (F0 m (pc + 1) ls (.int 9 :: rest))) : W p l e R s m args below meth c H locs cells slots Q (F0 m pc ls (.ref (pN P) :: rest)) :=
  va_alen C.1 C.2.1 hw.1 hw.2.1 4 1 rfl rfl rfl hdg kk
theorem xV_ld (C : CallFix p m c cc nL s args wB own) (hw : XwR D A P F B G n fd s H) {j : Nat} (hj : j < 24) {x : Int32} (hx : x = nI j) (hdg : decode cc pc = .ok (.aaload, 1)) (kk : W p l e R s m args below meth c H locs cells slots Q (F0 m (pc + 1) ls (va_rf (vfd P j) :: rest))) : W p l e R s m args below meth c H locs cells slots Q (F0 m pc ls (.int x :: .ref (pV P) :: rest)) := by
  subst hx
  refine va_aldq C.1 C.2.1 hw.1 hw.2.1 2 0 rfl rfl (vp_in_nI hj (by omega)) hdg ?_
  rw [nI_clamp (by omega)]
  exact kk
theorem xD_ld (C : CallFix p m c cc nL s args wB own) (hw : XwR D A P F B G n fd s H) {j : Nat} (hj : j < 24) {x : Int32} (hx : x = nI j) (hdg : decode cc pc = .ok (.aaload, 1)) (kk : W p l e R s m args below meth c H locs cells slots Q (F0 m (pc + 1) ls (va_rf (fd j) :: rest))) : W p l e R s m args below meth c H locs cells slots Q (F0 m pc ls (.int x :: .ref (pD P) :: rest)) := by
  subst hx
  refine va_aldq C.1 C.2.1 hw.1 hw.2.1 3 0 rfl rfl (vp_in_nI hj (by omega)) hdg ?_
  rw [nI_clamp (by omega)]
  exact kk
theorem xN_ld (C : CallFix p m c cc nL s args wB own) (hw : XwR D A P F B G n fd s H) {j : Nat} (hj : j < 9) {x : Int32} (hx : x = nI j) (hdg : decode cc pc = .ok (.iaload, 1)) (kk : W p l e R s m args below meth c H locs cells slots Q (F0 m (pc + 1) ls (.int (B j) :: rest))) : W p l e R s m args below meth c H locs cells slots Q (F0 m pc ls (.int x :: .ref (pN P) :: rest)) := by
  subst hx
  refine va_iald C.1 C.2.1 hw.1 hw.2.1 4 1 rfl rfl (vp_in_nI hj (by omega)) hdg ?_
  rw [nI_clamp (by omega)]
  exact kk
theorem xN_st (C : CallFix p m c cc nL s args wB own) (hw : XwR D A P F B G n fd s H) (hS : va_S A H0 H locs) {j : Nat} (hj : j < 9) {x v : Int32} (hx : x = nI j) (hdg : decode cc pc = .ok (.iastore, 1))
    (kk : ∀ (H1 : Heap) (locs1 : List Loc), XwR D A P F (upd B j v) G n fd s H1 → va_S A H0 H1 locs1 → W p l e R s m args below meth c H1 locs1 cells slots Q (F0 m (pc + 1) ls rest)) : W p l e R s m args below meth c H locs cells slots Q (F0 m pc ls (.int v :: .int x :: .ref (pN P) :: rest)) := by
  subst hx
  refine va_iast C.1 C.2.1 hw.1 hw.2.1 hw.2.2 hS 4 1 rfl rfl (vp_in_nI hj (by omega)) hdg (fun H1 locs1 h1 h2 h3 => ?_)
  rw [nI_clamp (by omega)] at h1 h2
  exact kk H1 locs1 ⟨hw.1, h1, h2⟩ h3
theorem xD_stN (C : CallFix p m c cc nL s args wB own) (hw : XwR D A P F B G n fd s H) (hS : va_S A H0 H locs) {j : Nat} (hj : j < 24) {x : Int32} (hx : x = nI j) (hdg : decode cc pc = .ok (.aastore, 1))
    (kk : ∀ (H1 : Heap) (locs1 : List Loc), XwR D A P F B G n (va_up fd j none) s H1 → va_S A H0 H1 locs1 → W p l e R s m args below meth c H1 locs1 cells slots Q (F0 m (pc + 1) ls rest)) : W p l e R s m args below meth c H locs cells slots Q (F0 m pc ls (.null :: .int x :: .ref (pD P) :: rest)) := by
  subst hx
  refine va_astqN C.1 C.2.1 hw.1 hw.2.1 hw.2.2 hS 3 0 rfl rfl (vp_in_nI hj (by omega)) hdg (fun H1 locs1 h1 h2 h3 => ?_)
  rw [nI_clamp (by omega)] at h1 h2
  exact kk H1 locs1 ⟨hw.1, h1, h2⟩ h3
/-- a kind's class may lie in a row of carts -/
def Asg (s : State) : Prop := ∀ k, k < 9 → ∀ comp c0 : ClassId, s.vm.findClass RX4 = some comp → s.vm.findClass (cN k) = some c0 → s.vm.assignable c0 comp = true
theorem xD_st (C : CallFix p m c cc nL s args wB own) (hw : XwR D A P F B G n fd s H) (hS : va_S A H0 H locs) (hg : Asg s) (hi : i < pn P) (hk : pk P i < 9) {j : Nat} (hj : j < 24) {x : Int32} (hx : x = nI j) (hdg : decode cc pc = .ok (.aastore, 1))
    (kk : ∀ (H1 : Heap) (locs1 : List Loc), XwR D A P F B G n (va_up fd j (some (pa P i))) s H1 → va_S A H0 H1 locs1 → W p l e R s m args below meth c H1 locs1 cells slots Q (F0 m (pc + 1) ls rest)) : W p l e R s m args below meth c H locs cells slots Q (F0 m pc ls (.ref (pa P i) :: .int x :: .ref (pD P) :: rest)) := by
  subst hx
  refine va_astqM (E := RX4) C.1 C.2.1 hw.1 hw.2.1 hw.2.2 hS 3 0 rfl rfl (va_rAny hw.1 hw.2.1 (xws_v hi) (sCl_k hk) (hg _ hk)) (vp_in_nI hj (by omega)) hdg (fun H1 locs1 h1 h2 h3 => ?_)
  rw [nI_clamp (by omega)] at h1 h2
  exact kk H1 locs1 ⟨hw.1, h1, h2⟩ h3
/-- bridge.begun, of a vehicle in local 0 -/
theorem x_begun (C : CallFix p m c cc nL s args wB own) (hw : XwR D A P F B G n fd s H) (hi : i < pn P) (hk : pk P i < 9) {i1 i2 : Nat} (hl1 : Cond.fieldLink own i1 ref (TX4 0).2.1 (TX4 0).2.2.1 ∈ wB) (hs : ref = "SwingBridge$Cart" ∨ Cond.sameField ref "SwingBridge$Cart" (TX4 0).2.1 (TX4 0).2.2.1 ∈ wB) (hl2 : Cond.fieldLink own i2 (TX0 1).1 (TX0 1).2.1 (TX0 1).2.2.1 ∈ wB) (h0 : ls[0]? = some (.val (.ref (pa P i)))) (d0 : decode cc pc = .ok (.aload_n 0, 1)) (d1 : decode cc (pc + 1) = .ok (.getfield i1, 3)) (d4 : decode cc (pc + 4) = .ok (.getfield i2, 3))
    (kk : W p l e R s m args below meth c H locs cells slots Q (F0 m (pc + 7) ls (.ref (pN P) :: rest))) : W p l e R s m args below meth c H locs cells slots Q (F0 m pc ls rest) :=
  lv_aload_n C.1 C.2.1 d0 rfl h0 (xv_get C hw hi hk 0 (by omega) hl1 hs rfl d1 (xb_get C hw 1 (by omega) hl2 rfl d4 kk))
/-- [j]++ -/
theorem x_inc (C : CallFix p m c cc nL s args wB own) (hw : XwR D A P F B G n fd s H) (hS : va_S A H0 H locs) {j : Nat} (hj : j < 9) {x : Int32} (hx : x = nI j) (d0 : decode cc pc = .ok (.dup2, 1)) (d1 : decode cc (pc + 1) = .ok (.iaload, 1)) (d2 : decode cc (pc + 2) = .ok (.iconst 1, 1)) (d3 : decode cc (pc + 3) = .ok (.iadd, 1)) (d4 : decode cc (pc + 4) = .ok (.iastore, 1))
    (kk : ∀ (H1 : Heap) (locs1 : List Loc), XwR D A P F (iB B j) G n fd s H1 → va_S A H0 H1 locs1 → W p l e R s m args below meth c H1 locs1 cells slots Q (F0 m (pc + 5) ls rest)) : W p l e R s m args below meth c H locs cells slots Q (F0 m pc ls (.int x :: .ref (pN P) :: rest)) := by
  refine lv_dup2_11 C.1 C.2.1 d0 rfl rfl ?_
  refine xN_ld C hw hj hx d1 ?_
  refine lv_iconst (v := 1) C.1 C.2.1 d2 (by decide) ?_
  refine lv_iadd C.1 C.2.1 d3 ?_
  exact xN_st C hw hS hj hx d4 kk
end XRows
