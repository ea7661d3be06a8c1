/-! THE REFERENCE'S WORLD: the same state (F, B, G, dk); q: addresses by the field's slot (0 the object itself); r: the row's cells; thr, dv: thrown, isDivided; n: many -/
def opn (G : Nat → Int32) : Int32 := if G 4 = 0 then 1 else 0
def mfs (q : Nat → Nat) (n : Nat) (G : Nat → Int32) (cnt thr dv : Int32) : List Value := [.int thr, .int (nI n), .ref (q 2), .ref (q 3), .ref (q 4), .ref (q 5), .ref (q 6), .ref (q 7), .ref (q 8), .ref (q 9), .ref (q 10), .int cnt, .ref (q 12), .int (G 3), .int (opn G), .int (G 5), .int (G 6), .int dv]
def mws (q : Nat → Nat) (cI n : Nat) (F : Nat → Nat → Int32) (B G : Nat → Int32) (cnt : Int32) (r : Nat → Int32) (thr dv : Int32) : va_W := [(q 0, .inr (11, mfs q n G cnt thr dv)), (q 2, .inl (cI, 24, .inl (fun a => F a 2))), (q 3, .inl (cI, 24, .inl (fun a => F a 3))), (q 4, .inl (cI, 24, .inl (fun a => F a 5))), (q 5, .inl (cI, 24, .inl (fun a => F a 4))), (q 6, .inl (cI, 24, .inl (fun a => F a 6))), (q 7, .inl (cI, 24, .inl (fun a => F a 7))), (q 8, .inl (cI, 24, .inl (fun a => F a 8))), (q 9, .inl (cI, 24, .inl (fun a => F a 9))), (q 10, .inl (cI, 24, .inl r)), (q 12, .inl (cI, 9, .inl B))]
def MwR (D : va_G) (A : Nat → Prop) (q : Nat → Nat) (cI n : Nat) (F : Nat → Nat → Int32) (B G : Nat → Int32) (cnt : Int32) (r : Nat → Int32) (thr dv : Int32) (s : State) (H : Heap) : Prop :=
  va_K D sCl [(cI, .int)] s ∧ va_P D sCl (mws q cI n F B G cnt r thr dv) H ∧ va_D A (mws q cI n F B G cnt r thr dv)
/-- which place of the world holds the array of field k of F -/
def mpl (k : Nat) : Nat := match k with | 2 => 1 | 3 => 2 | 5 => 3 | 4 => 4 | 6 => 5 | 7 => 6 | 8 => 7 | _ => 8
def mq (k : Nat) : Nat := match k with | 2 => 2 | 3 => 3 | 5 => 4 | 4 => 5 | 6 => 6 | 7 => 7 | 8 => 8 | _ => 9
theorem upd_F {F : Nat → Nat → Int32} {j k : Nat} {v : Int32} : upd (fun a => F a k) j v = fun a => uF F j k v a k := by
  funext a
  unfold upd uF
  by_cases h : a = j
  · rw [if_pos h, if_pos ⟨h, rfl⟩]
  · rw [if_neg h, if_neg (fun z => h z.1)]
theorem uF_fn {F : Nat → Nat → Int32} {j k b : Nat} {v : Int32} (h : b ≠ k) : (fun a => uF F j k v a b) = fun a => F a b := by funext a; exact uF_k h
section MRows
variable {p : Program} {l : Launch} {e : Env} {R : Room} {s u : State} {m : MethodId} {args : Array Value} {below : List Frame} {meth : Method} {c : Code} {H H1 : Heap} {locs : List Loc} {cells slots : Nat} {Q : State → Prop}
variable {cc : ByteArray} {nL index pc : Nat} {ls : Array Slot} {rest : List Value} {D : va_G} {A : Nat → Prop} {q : Nat → Nat} {cI n : Nat} {F : Nat → Nat → Int32} {B G : Nat → Int32} {cnt thr dv : Int32} {r : Nat → Int32} {H0 : Heap}
theorem MwR.moved (h : MwR D A q cI n F B G cnt r thr dv s H) (hvm : s.vm.Alike u.vm) : MwR D A q cI n F B G cnt r thr dv u H := ⟨va_K.moved hvm h.1, h.2.1, h.2.2⟩
theorem m_post {t : State} (hw : MwR D A q cI n F B G cnt r thr dv s H) (ht : t.heap = H) (hW : s.WarmedH t.vm) : MwR D A q cI n F B G cnt r thr dv t t.heap := by rw [ht]; exact hw.moved hW.alike
theorem m_back {t : State} (hw : MwR D A q cI n F B G cnt r thr dv t t.heap) (ht : t.heap = H) (hvm : s.vm.Alike t.vm) : MwR D A q cI n F B G cnt r thr dv s H := by rw [ht] at hw; exact hw.moved hvm.symm
theorem m_kept (hw : MwR D A q cI n F B G cnt r thr dv s H) (hk : ∀ a : Nat, a < H.size → ¬ No a → H1[a]? = H[a]?) : MwR D A q cI n F B G cnt r thr dv s H1 := ⟨hw.1, hw.2.1.kept (fun k x hx => hk x.1 (vx_lt hw.2.1 hx) (fun h => h)), hw.2.2⟩
theorem m_recv (hw : MwR D A q cI n F B G cnt r thr dv s H) : ∃ cellB : Cell, H[q 0]? = some cellB ∧ cellB.vm.isStatics = false ∧ s.vm.findClass RX11 = some cellB.cls := va_recv (q := (RX11, TX11, 18)) hw.1 hw.2.1 (ci := 11) (q0 := 0) rfl rfl
abbrev Mp (D : va_G) (A : Nat → Prop) (q : Nat → Nat) (cI n : Nat) (F : Nat → Nat → Int32) (B G : Nat → Int32) (cnt : Int32) (r : Nat → Int32) (thr dv : Int32) : State → Prop := fun U => MwR D A q cI n F B G cnt r thr dv U U.heap
theorem Mp_bl : Bl (Mp D A q cI n F B G cnt r thr dv) := fun U g mk a h => h.moved (u := U.calling g mk a) (Vm.Alike.refl U.vm)
theorem mg_get (C : CallFix p m c cc nL s args wB RX11) (hw : MwR D A q cI n F B G cnt r thr dv s H) (k : Nat) (hk : k < 18) (hl : Cond.fieldLink RX11 index (TX11 k).1 (TX11 k).2.1 (TX11 k).2.2.1 ∈ wB) {v : Value} (hv : (mfs q n G cnt thr dv)[k]? = some v) (hdg : decode cc pc = .ok (.getfield index, 3))
    (kk : W p l e R s m args below meth c H locs cells slots Q (F0 m (pc + 3) ls (v :: rest))) : W p l e R s m args below meth c H locs cells slots Q (F0 m pc ls (.ref (q 0) :: rest)) :=
  va_get (D := D) (ci := 11) (C := RX11) (T := TX11) (N := 18) (ref := (TX11 k).1) C.1 C.2.1 C.2.2.2.2 inX11 C.2.2.2.1 hw.1 hw.2.1 0 rfl rfl k hk (C.2.2.2.2 _ hl) (fun x hx => hx) hv hdg kk
theorem mp_thr (C : CallFix p m c cc nL s args wB RX11) (hw : MwR D A q cI n F B G cnt r thr dv s H) (hS : va_S A H0 H locs) (hl : Cond.fieldLink RX11 index (TX11 0).1 (TX11 0).2.1 (TX11 0).2.2.1 ∈ wB) {v : Int32} (hdg : decode cc pc = .ok (.putfield index, 3))
    (kk : ∀ (H1 : Heap) (locs1 : List Loc), MwR D A q cI n F B G cnt r v dv s H1 → va_S A H0 H1 locs1 → W p l e R s m args below meth c H1 locs1 cells slots Q (F0 m (pc + 3) ls rest)) : W p l e R s m args below meth c H locs cells slots Q (F0 m pc ls (.int v :: .ref (q 0) :: rest)) := by
  refine va_put (D := D) (ci := 11) (v := .int v) (ty := .int) (C := RX11) (T := TX11) (N := 18) (ref := (TX11 0).1) C.1 C.2.1 C.2.2.2.2 inX11 tyX11 tyX11_ok nmX11 C.2.2.2.1 hw.1 hw.2.1 hw.2.2 hS 0 rfl rfl 0 (by decide) (C.2.2.2.2 _ hl) (fun x hx => hx) rfl (by decide +kernel) (rfl) (rfl) (Nat.le_of_ble_eq_true rfl) hdg (fun H1 locs1 h1 h2 h3 => ?_)
  have he : (mws q cI n F B G cnt r thr dv).set 0 (q 0, .inr (11, (mfs q n G cnt thr dv).set 0 (.int v))) = mws q cI n F B G cnt r v dv := rfl
  rw [he] at h1 h2
  exact kk H1 locs1 ⟨hw.1, h1, h2⟩ h3
theorem mp_many (C : CallFix p m c cc nL s args wB RX11) (hw : MwR D A q cI n F B G cnt r thr dv s H) (hS : va_S A H0 H locs) (hl : Cond.fieldLink RX11 index (TX11 1).1 (TX11 1).2.1 (TX11 1).2.2.1 ∈ wB) {v : Int32} {n' : Nat} (hn : v = nI n') (hdg : decode cc pc = .ok (.putfield index, 3))
    (kk : ∀ (H1 : Heap) (locs1 : List Loc), MwR D A q cI n' F B G cnt r thr dv s H1 → va_S A H0 H1 locs1 → W p l e R s m args below meth c H1 locs1 cells slots Q (F0 m (pc + 3) ls rest)) : W p l e R s m args below meth c H locs cells slots Q (F0 m pc ls (.int v :: .ref (q 0) :: rest)) := by
  refine va_put (D := D) (ci := 11) (v := .int v) (ty := .int) (C := RX11) (T := TX11) (N := 18) (ref := (TX11 1).1) C.1 C.2.1 C.2.2.2.2 inX11 tyX11 tyX11_ok nmX11 C.2.2.2.1 hw.1 hw.2.1 hw.2.2 hS 0 rfl rfl 1 (by decide) (C.2.2.2.2 _ hl) (fun x hx => hx) rfl (by decide +kernel) (rfl) (rfl) (Nat.le_of_ble_eq_true rfl) hdg (fun H1 locs1 h1 h2 h3 => ?_)
  have he : (mws q cI n F B G cnt r thr dv).set 0 (q 0, .inr (11, (mfs q n G cnt thr dv).set 1 (.int v))) = mws q cI n' F B G cnt r thr dv := by rw [hn]; rfl
  rw [he] at h1 h2
  exact kk H1 locs1 ⟨hw.1, h1, h2⟩ h3
theorem mp_cnt (C : CallFix p m c cc nL s args wB RX11) (hw : MwR D A q cI n F B G cnt r thr dv s H) (hS : va_S A H0 H locs) (hl : Cond.fieldLink RX11 index (TX11 11).1 (TX11 11).2.1 (TX11 11).2.2.1 ∈ wB) {v : Int32} (hdg : decode cc pc = .ok (.putfield index, 3))
    (kk : ∀ (H1 : Heap) (locs1 : List Loc), MwR D A q cI n F B G v r thr dv s H1 → va_S A H0 H1 locs1 → W p l e R s m args below meth c H1 locs1 cells slots Q (F0 m (pc + 3) ls rest)) : W p l e R s m args below meth c H locs cells slots Q (F0 m pc ls (.int v :: .ref (q 0) :: rest)) := by
  refine va_put (D := D) (ci := 11) (v := .int v) (ty := .int) (C := RX11) (T := TX11) (N := 18) (ref := (TX11 11).1) C.1 C.2.1 C.2.2.2.2 inX11 tyX11 tyX11_ok nmX11 C.2.2.2.1 hw.1 hw.2.1 hw.2.2 hS 0 rfl rfl 11 (by decide) (C.2.2.2.2 _ hl) (fun x hx => hx) rfl (by decide +kernel) (rfl) (rfl) (Nat.le_of_ble_eq_true rfl) hdg (fun H1 locs1 h1 h2 h3 => ?_)
  have he : (mws q cI n F B G cnt r thr dv).set 0 (q 0, .inr (11, (mfs q n G cnt thr dv).set 11 (.int v))) = mws q cI n F B G v r thr dv := rfl
  rw [he] at h1 h2
  exact kk H1 locs1 ⟨hw.1, h1, h2⟩ h3
theorem mp_lim (C : CallFix p m c cc nL s args wB RX11) (hw : MwR D A q cI n F B G cnt r thr dv s H) (hS : va_S A H0 H locs) (hl : Cond.fieldLink RX11 index (TX11 13).1 (TX11 13).2.1 (TX11 13).2.2.1 ∈ wB) {v : Int32} (hdg : decode cc pc = .ok (.putfield index, 3))
    (kk : ∀ (H1 : Heap) (locs1 : List Loc), MwR D A q cI n F B (upd G 3 v) cnt r thr dv s H1 → va_S A H0 H1 locs1 → W p l e R s m args below meth c H1 locs1 cells slots Q (F0 m (pc + 3) ls rest)) : W p l e R s m args below meth c H locs cells slots Q (F0 m pc ls (.int v :: .ref (q 0) :: rest)) := by
  refine va_put (D := D) (ci := 11) (v := .int v) (ty := .int) (C := RX11) (T := TX11) (N := 18) (ref := (TX11 13).1) C.1 C.2.1 C.2.2.2.2 inX11 tyX11 tyX11_ok nmX11 C.2.2.2.1 hw.1 hw.2.1 hw.2.2 hS 0 rfl rfl 13 (by decide) (C.2.2.2.2 _ hl) (fun x hx => hx) rfl (by decide +kernel) (rfl) (rfl) (Nat.le_of_ble_eq_true rfl) hdg (fun H1 locs1 h1 h2 h3 => ?_)
  have he : (mws q cI n F B G cnt r thr dv).set 0 (q 0, .inr (11, (mfs q n G cnt thr dv).set 13 (.int v))) = mws q cI n F B (upd G 3 v) cnt r thr dv := rfl
  rw [he] at h1 h2
  exact kk H1 locs1 ⟨hw.1, h1, h2⟩ h3
theorem mp_stop (C : CallFix p m c cc nL s args wB RX11) (hw : MwR D A q cI n F B G cnt r thr dv s H) (hS : va_S A H0 H locs) (hl : Cond.fieldLink RX11 index (TX11 15).1 (TX11 15).2.1 (TX11 15).2.2.1 ∈ wB) {v : Int32} (hdg : decode cc pc = .ok (.putfield index, 3))
    (kk : ∀ (H1 : Heap) (locs1 : List Loc), MwR D A q cI n F B (upd G 5 v) cnt r thr dv s H1 → va_S A H0 H1 locs1 → W p l e R s m args below meth c H1 locs1 cells slots Q (F0 m (pc + 3) ls rest)) : W p l e R s m args below meth c H locs cells slots Q (F0 m pc ls (.int v :: .ref (q 0) :: rest)) := by
  refine va_put (D := D) (ci := 11) (v := .int v) (ty := .int) (C := RX11) (T := TX11) (N := 18) (ref := (TX11 15).1) C.1 C.2.1 C.2.2.2.2 inX11 tyX11 tyX11_ok nmX11 C.2.2.2.1 hw.1 hw.2.1 hw.2.2 hS 0 rfl rfl 15 (by decide) (C.2.2.2.2 _ hl) (fun x hx => hx) rfl (by decide +kernel) (rfl) (rfl) (Nat.le_of_ble_eq_true rfl) hdg (fun H1 locs1 h1 h2 h3 => ?_)
  have he : (mws q cI n F B G cnt r thr dv).set 0 (q 0, .inr (11, (mfs q n G cnt thr dv).set 15 (.int v))) = mws q cI n F B (upd G 5 v) cnt r thr dv := rfl
  rw [he] at h1 h2
  exact kk H1 locs1 ⟨hw.1, h1, h2⟩ h3
theorem mp_div (C : CallFix p m c cc nL s args wB RX11) (hw : MwR D A q cI n F B G cnt r thr dv s H) (hS : va_S A H0 H locs) (hl : Cond.fieldLink RX11 index (TX11 16).1 (TX11 16).2.1 (TX11 16).2.2.1 ∈ wB) {v : Int32} (hdg : decode cc pc = .ok (.putfield index, 3))
    (kk : ∀ (H1 : Heap) (locs1 : List Loc), MwR D A q cI n F B (upd G 6 v) cnt r thr dv s H1 → va_S A H0 H1 locs1 → W p l e R s m args below meth c H1 locs1 cells slots Q (F0 m (pc + 3) ls rest)) : W p l e R s m args below meth c H locs cells slots Q (F0 m pc ls (.int v :: .ref (q 0) :: rest)) := by
  refine va_put (D := D) (ci := 11) (v := .int v) (ty := .int) (C := RX11) (T := TX11) (N := 18) (ref := (TX11 16).1) C.1 C.2.1 C.2.2.2.2 inX11 tyX11 tyX11_ok nmX11 C.2.2.2.1 hw.1 hw.2.1 hw.2.2 hS 0 rfl rfl 16 (by decide) (C.2.2.2.2 _ hl) (fun x hx => hx) rfl (by decide +kernel) (rfl) (rfl) (Nat.le_of_ble_eq_true rfl) hdg (fun H1 locs1 h1 h2 h3 => ?_)
  have he : (mws q cI n F B G cnt r thr dv).set 0 (q 0, .inr (11, (mfs q n G cnt thr dv).set 16 (.int v))) = mws q cI n F B (upd G 6 v) cnt r thr dv := rfl
  rw [he] at h1 h2
  exact kk H1 locs1 ⟨hw.1, h1, h2⟩ h3
theorem mp_dv (C : CallFix p m c cc nL s args wB RX11) (hw : MwR D A q cI n F B G cnt r thr dv s H) (hS : va_S A H0 H locs) (hl : Cond.fieldLink RX11 index (TX11 17).1 (TX11 17).2.1 (TX11 17).2.2.1 ∈ wB) {v : Int32} (hz : v = 0 ∨ v = 1) (hdg : decode cc pc = .ok (.putfield index, 3))
    (kk : ∀ (H1 : Heap) (locs1 : List Loc), MwR D A q cI n F B G cnt r thr v s H1 → va_S A H0 H1 locs1 → W p l e R s m args below meth c H1 locs1 cells slots Q (F0 m (pc + 3) ls rest)) : W p l e R s m args below meth c H locs cells slots Q (F0 m pc ls (.int v :: .ref (q 0) :: rest)) := by
  refine va_put (D := D) (ci := 11) (v := .int v) (ty := .boolean) (C := RX11) (T := TX11) (N := 18) (ref := (TX11 17).1) C.1 C.2.1 C.2.2.2.2 inX11 tyX11 tyX11_ok nmX11 C.2.2.2.1 hw.1 hw.2.1 hw.2.2 hS 0 rfl rfl 17 (by decide) (C.2.2.2.2 _ hl) (fun x hx => hx) rfl (by decide +kernel) (by rcases hz with rfl | rfl <;> rfl) (by rcases hz with rfl | rfl <;> rfl) (Nat.le_of_ble_eq_true rfl) hdg (fun H1 locs1 h1 h2 h3 => ?_)
  have he : (mws q cI n F B G cnt r thr dv).set 0 (q 0, .inr (11, (mfs q n G cnt thr dv).set 17 (.int v))) = mws q cI n F B G cnt r thr v := rfl
  rw [he] at h1 h2
  exact kk H1 locs1 ⟨hw.1, h1, h2⟩ h3
theorem mp_open (C : CallFix p m c cc nL s args wB RX11) (hw : MwR D A q cI n F B G cnt r thr dv s H) (hS : va_S A H0 H locs) (hl : Cond.fieldLink RX11 index (TX11 14).1 (TX11 14).2.1 (TX11 14).2.2.1 ∈ wB) {v : Int32} {w : Int32} (hz : v = 0 ∨ v = 1) (hw0 : v = if w = 0 then 1 else 0) (hdg : decode cc pc = .ok (.putfield index, 3))
    (kk : ∀ (H1 : Heap) (locs1 : List Loc), MwR D A q cI n F B (upd G 4 w) cnt r thr dv s H1 → va_S A H0 H1 locs1 → W p l e R s m args below meth c H1 locs1 cells slots Q (F0 m (pc + 3) ls rest)) : W p l e R s m args below meth c H locs cells slots Q (F0 m pc ls (.int v :: .ref (q 0) :: rest)) := by
  refine va_put (D := D) (ci := 11) (v := .int v) (ty := .boolean) (C := RX11) (T := TX11) (N := 18) (ref := (TX11 14).1) C.1 C.2.1 C.2.2.2.2 inX11 tyX11 tyX11_ok nmX11 C.2.2.2.1 hw.1 hw.2.1 hw.2.2 hS 0 rfl rfl 14 (by decide) (C.2.2.2.2 _ hl) (fun x hx => hx) rfl (by decide +kernel) (by rcases hz with rfl | rfl <;> rfl) (by rcases hz with rfl | rfl <;> rfl) (Nat.le_of_ble_eq_true rfl) hdg (fun H1 locs1 h1 h2 h3 => ?_)
  have he : (mws q cI n F B G cnt r thr dv).set 0 (q 0, .inr (11, (mfs q n G cnt thr dv).set 14 (.int v))) = mws q cI n F B (upd G 4 w) cnt r thr dv := by rw [hw0]; rfl
  rw [he] at h1 h2
  exact kk H1 locs1 ⟨hw.1, h1, h2⟩ h3
theorem ma_kind (C : CallFix p m c cc nL s args wB RX11) (hw : MwR D A q cI n F B G cnt r thr dv s H) {j : Nat} (hj : j < 24) {x : Int32} (hx : x = nI j) (hdg : decode cc pc = .ok (.iaload, 1)) (kk : W p l e R s m args below meth c H locs cells slots Q (F0 m (pc + 1) ls (.int (F j 2) :: rest))) : W p l e R s m args below meth c H locs cells slots Q (F0 m pc ls (.int x :: .ref (q 2) :: rest)) := by
  subst hx
  refine va_iald C.1 C.2.1 hw.1 hw.2.1 1 0 rfl rfl (vp_in_nI hj (by omega)) hdg ?_
  rw [nI_clamp (by omega)]
  exact kk
theorem ms_kind (C : CallFix p m c cc nL s args wB RX11) (hw : MwR D A q cI n F B G cnt r thr dv s H) (hS : va_S A H0 H locs) {j : Nat} (hj : j < 24) {x v : Int32} (hx : x = nI j) (hdg : decode cc pc = .ok (.iastore, 1))
    (kk : ∀ (H1 : Heap) (locs1 : List Loc), MwR D A q cI n (uF F j 2 v) B G cnt r thr dv s H1 → va_S A H0 H1 locs1 → W p l e R s m args below meth c H1 locs1 cells slots Q (F0 m (pc + 1) ls rest)) : W p l e R s m args below meth c H locs cells slots Q (F0 m pc ls (.int v :: .int x :: .ref (q 2) :: rest)) := by
  subst hx
  refine va_iast C.1 C.2.1 hw.1 hw.2.1 hw.2.2 hS 1 0 rfl rfl (vp_in_nI hj (by omega)) hdg (fun H1 locs1 h1 h2 h3 => ?_)
  have he : (mws q cI n F B G cnt r thr dv).set 1 (q 2, .inl (cI, 24, .inl (upd (fun a => F a 2) (nI j).toNatClampNeg v))) = mws q cI n (uF F j 2 v) B G cnt r thr dv := by
    rw [nI_clamp (by omega), upd_F]
    unfold mws
    rw [uF_fn (F := F) (j := j) (k := 2) (v := v) (b := 3) (by decide), uF_fn (F := F) (j := j) (k := 2) (v := v) (b := 5) (by decide), uF_fn (F := F) (j := j) (k := 2) (v := v) (b := 4) (by decide), uF_fn (F := F) (j := j) (k := 2) (v := v) (b := 6) (by decide), uF_fn (F := F) (j := j) (k := 2) (v := v) (b := 7) (by decide), uF_fn (F := F) (j := j) (k := 2) (v := v) (b := 8) (by decide), uF_fn (F := F) (j := j) (k := 2) (v := v) (b := 9) (by decide)]
    rfl
  rw [he] at h1 h2
  exact kk H1 locs1 ⟨hw.1, h1, h2⟩ h3
theorem ma_mass (C : CallFix p m c cc nL s args wB RX11) (hw : MwR D A q cI n F B G cnt r thr dv s H) {j : Nat} (hj : j < 24) {x : Int32} (hx : x = nI j) (hdg : decode cc pc = .ok (.iaload, 1)) (kk : W p l e R s m args below meth c H locs cells slots Q (F0 m (pc + 1) ls (.int (F j 3) :: rest))) : W p l e R s m args below meth c H locs cells slots Q (F0 m pc ls (.int x :: .ref (q 3) :: rest)) := by
  subst hx
  refine va_iald C.1 C.2.1 hw.1 hw.2.1 2 0 rfl rfl (vp_in_nI hj (by omega)) hdg ?_
  rw [nI_clamp (by omega)]
  exact kk
theorem ms_mass (C : CallFix p m c cc nL s args wB RX11) (hw : MwR D A q cI n F B G cnt r thr dv s H) (hS : va_S A H0 H locs) {j : Nat} (hj : j < 24) {x v : Int32} (hx : x = nI j) (hdg : decode cc pc = .ok (.iastore, 1))
    (kk : ∀ (H1 : Heap) (locs1 : List Loc), MwR D A q cI n (uF F j 3 v) B G cnt r thr dv s H1 → va_S A H0 H1 locs1 → W p l e R s m args below meth c H1 locs1 cells slots Q (F0 m (pc + 1) ls rest)) : W p l e R s m args below meth c H locs cells slots Q (F0 m pc ls (.int v :: .int x :: .ref (q 3) :: rest)) := by
  subst hx
  refine va_iast C.1 C.2.1 hw.1 hw.2.1 hw.2.2 hS 2 0 rfl rfl (vp_in_nI hj (by omega)) hdg (fun H1 locs1 h1 h2 h3 => ?_)
  have he : (mws q cI n F B G cnt r thr dv).set 2 (q 3, .inl (cI, 24, .inl (upd (fun a => F a 3) (nI j).toNatClampNeg v))) = mws q cI n (uF F j 3 v) B G cnt r thr dv := by
    rw [nI_clamp (by omega), upd_F]
    unfold mws
    rw [uF_fn (F := F) (j := j) (k := 3) (v := v) (b := 2) (by decide), uF_fn (F := F) (j := j) (k := 3) (v := v) (b := 5) (by decide), uF_fn (F := F) (j := j) (k := 3) (v := v) (b := 4) (by decide), uF_fn (F := F) (j := j) (k := 3) (v := v) (b := 6) (by decide), uF_fn (F := F) (j := j) (k := 3) (v := v) (b := 7) (by decide), uF_fn (F := F) (j := j) (k := 3) (v := v) (b := 8) (by decide), uF_fn (F := F) (j := j) (k := 3) (v := v) (b := 9) (by decide)]
    rfl
  rw [he] at h1 h2
  exact kk H1 locs1 ⟨hw.1, h1, h2⟩ h3
theorem ma_load (C : CallFix p m c cc nL s args wB RX11) (hw : MwR D A q cI n F B G cnt r thr dv s H) {j : Nat} (hj : j < 24) {x : Int32} (hx : x = nI j) (hdg : decode cc pc = .ok (.iaload, 1)) (kk : W p l e R s m args below meth c H locs cells slots Q (F0 m (pc + 1) ls (.int (F j 5) :: rest))) : W p l e R s m args below meth c H locs cells slots Q (F0 m pc ls (.int x :: .ref (q 4) :: rest)) := by
  subst hx
  refine va_iald C.1 C.2.1 hw.1 hw.2.1 3 0 rfl rfl (vp_in_nI hj (by omega)) hdg ?_
  rw [nI_clamp (by omega)]
  exact kk
theorem ms_load (C : CallFix p m c cc nL s args wB RX11) (hw : MwR D A q cI n F B G cnt r thr dv s H) (hS : va_S A H0 H locs) {j : Nat} (hj : j < 24) {x v : Int32} (hx : x = nI j) (hdg : decode cc pc = .ok (.iastore, 1))
    (kk : ∀ (H1 : Heap) (locs1 : List Loc), MwR D A q cI n (uF F j 5 v) B G cnt r thr dv s H1 → va_S A H0 H1 locs1 → W p l e R s m args below meth c H1 locs1 cells slots Q (F0 m (pc + 1) ls rest)) : W p l e R s m args below meth c H locs cells slots Q (F0 m pc ls (.int v :: .int x :: .ref (q 4) :: rest)) := by
  subst hx
  refine va_iast C.1 C.2.1 hw.1 hw.2.1 hw.2.2 hS 3 0 rfl rfl (vp_in_nI hj (by omega)) hdg (fun H1 locs1 h1 h2 h3 => ?_)
  have he : (mws q cI n F B G cnt r thr dv).set 3 (q 4, .inl (cI, 24, .inl (upd (fun a => F a 5) (nI j).toNatClampNeg v))) = mws q cI n (uF F j 5 v) B G cnt r thr dv := by
    rw [nI_clamp (by omega), upd_F]
    unfold mws
    rw [uF_fn (F := F) (j := j) (k := 5) (v := v) (b := 2) (by decide), uF_fn (F := F) (j := j) (k := 5) (v := v) (b := 3) (by decide), uF_fn (F := F) (j := j) (k := 5) (v := v) (b := 4) (by decide), uF_fn (F := F) (j := j) (k := 5) (v := v) (b := 6) (by decide), uF_fn (F := F) (j := j) (k := 5) (v := v) (b := 7) (by decide), uF_fn (F := F) (j := j) (k := 5) (v := v) (b := 8) (by decide), uF_fn (F := F) (j := j) (k := 5) (v := v) (b := 9) (by decide)]
    rfl
  rw [he] at h1 h2
  exact kk H1 locs1 ⟨hw.1, h1, h2⟩ h3
theorem ma_share (C : CallFix p m c cc nL s args wB RX11) (hw : MwR D A q cI n F B G cnt r thr dv s H) {j : Nat} (hj : j < 24) {x : Int32} (hx : x = nI j) (hdg : decode cc pc = .ok (.iaload, 1)) (kk : W p l e R s m args below meth c H locs cells slots Q (F0 m (pc + 1) ls (.int (F j 4) :: rest))) : W p l e R s m args below meth c H locs cells slots Q (F0 m pc ls (.int x :: .ref (q 5) :: rest)) := by
  subst hx
  refine va_iald C.1 C.2.1 hw.1 hw.2.1 4 0 rfl rfl (vp_in_nI hj (by omega)) hdg ?_
  rw [nI_clamp (by omega)]
  exact kk
theorem ms_share (C : CallFix p m c cc nL s args wB RX11) (hw : MwR D A q cI n F B G cnt r thr dv s H) (hS : va_S A H0 H locs) {j : Nat} (hj : j < 24) {x v : Int32} (hx : x = nI j) (hdg : decode cc pc = .ok (.iastore, 1))
    (kk : ∀ (H1 : Heap) (locs1 : List Loc), MwR D A q cI n (uF F j 4 v) B G cnt r thr dv s H1 → va_S A H0 H1 locs1 → W p l e R s m args below meth c H1 locs1 cells slots Q (F0 m (pc + 1) ls rest)) : W p l e R s m args below meth c H locs cells slots Q (F0 m pc ls (.int v :: .int x :: .ref (q 5) :: rest)) := by
  subst hx
  refine va_iast C.1 C.2.1 hw.1 hw.2.1 hw.2.2 hS 4 0 rfl rfl (vp_in_nI hj (by omega)) hdg (fun H1 locs1 h1 h2 h3 => ?_)
  have he : (mws q cI n F B G cnt r thr dv).set 4 (q 5, .inl (cI, 24, .inl (upd (fun a => F a 4) (nI j).toNatClampNeg v))) = mws q cI n (uF F j 4 v) B G cnt r thr dv := by
    rw [nI_clamp (by omega), upd_F]
    unfold mws
    rw [uF_fn (F := F) (j := j) (k := 4) (v := v) (b := 2) (by decide), uF_fn (F := F) (j := j) (k := 4) (v := v) (b := 3) (by decide), uF_fn (F := F) (j := j) (k := 4) (v := v) (b := 5) (by decide), uF_fn (F := F) (j := j) (k := 4) (v := v) (b := 6) (by decide), uF_fn (F := F) (j := j) (k := 4) (v := v) (b := 7) (by decide), uF_fn (F := F) (j := j) (k := 4) (v := v) (b := 8) (by decide), uF_fn (F := F) (j := j) (k := 4) (v := v) (b := 9) (by decide)]
    rfl
  rw [he] at h1 h2
  exact kk H1 locs1 ⟨hw.1, h1, h2⟩ h3
theorem ma_place (C : CallFix p m c cc nL s args wB RX11) (hw : MwR D A q cI n F B G cnt r thr dv s H) {j : Nat} (hj : j < 24) {x : Int32} (hx : x = nI j) (hdg : decode cc pc = .ok (.iaload, 1)) (kk : W p l e R s m args below meth c H locs cells slots Q (F0 m (pc + 1) ls (.int (F j 6) :: rest))) : W p l e R s m args below meth c H locs cells slots Q (F0 m pc ls (.int x :: .ref (q 6) :: rest)) := by
  subst hx
  refine va_iald C.1 C.2.1 hw.1 hw.2.1 5 0 rfl rfl (vp_in_nI hj (by omega)) hdg ?_
  rw [nI_clamp (by omega)]
  exact kk
theorem ms_place (C : CallFix p m c cc nL s args wB RX11) (hw : MwR D A q cI n F B G cnt r thr dv s H) (hS : va_S A H0 H locs) {j : Nat} (hj : j < 24) {x v : Int32} (hx : x = nI j) (hdg : decode cc pc = .ok (.iastore, 1))
    (kk : ∀ (H1 : Heap) (locs1 : List Loc), MwR D A q cI n (uF F j 6 v) B G cnt r thr dv s H1 → va_S A H0 H1 locs1 → W p l e R s m args below meth c H1 locs1 cells slots Q (F0 m (pc + 1) ls rest)) : W p l e R s m args below meth c H locs cells slots Q (F0 m pc ls (.int v :: .int x :: .ref (q 6) :: rest)) := by
  subst hx
  refine va_iast C.1 C.2.1 hw.1 hw.2.1 hw.2.2 hS 5 0 rfl rfl (vp_in_nI hj (by omega)) hdg (fun H1 locs1 h1 h2 h3 => ?_)
  have he : (mws q cI n F B G cnt r thr dv).set 5 (q 6, .inl (cI, 24, .inl (upd (fun a => F a 6) (nI j).toNatClampNeg v))) = mws q cI n (uF F j 6 v) B G cnt r thr dv := by
    rw [nI_clamp (by omega), upd_F]
    unfold mws
    rw [uF_fn (F := F) (j := j) (k := 6) (v := v) (b := 2) (by decide), uF_fn (F := F) (j := j) (k := 6) (v := v) (b := 3) (by decide), uF_fn (F := F) (j := j) (k := 6) (v := v) (b := 5) (by decide), uF_fn (F := F) (j := j) (k := 6) (v := v) (b := 4) (by decide), uF_fn (F := F) (j := j) (k := 6) (v := v) (b := 7) (by decide), uF_fn (F := F) (j := j) (k := 6) (v := v) (b := 8) (by decide), uF_fn (F := F) (j := j) (k := 6) (v := v) (b := 9) (by decide)]
    rfl
  rw [he] at h1 h2
  exact kk H1 locs1 ⟨hw.1, h1, h2⟩ h3
theorem ma_paid (C : CallFix p m c cc nL s args wB RX11) (hw : MwR D A q cI n F B G cnt r thr dv s H) {j : Nat} (hj : j < 24) {x : Int32} (hx : x = nI j) (hdg : decode cc pc = .ok (.iaload, 1)) (kk : W p l e R s m args below meth c H locs cells slots Q (F0 m (pc + 1) ls (.int (F j 7) :: rest))) : W p l e R s m args below meth c H locs cells slots Q (F0 m pc ls (.int x :: .ref (q 7) :: rest)) := by
  subst hx
  refine va_iald C.1 C.2.1 hw.1 hw.2.1 6 0 rfl rfl (vp_in_nI hj (by omega)) hdg ?_
  rw [nI_clamp (by omega)]
  exact kk
theorem ms_paid (C : CallFix p m c cc nL s args wB RX11) (hw : MwR D A q cI n F B G cnt r thr dv s H) (hS : va_S A H0 H locs) {j : Nat} (hj : j < 24) {x v : Int32} (hx : x = nI j) (hdg : decode cc pc = .ok (.iastore, 1))
    (kk : ∀ (H1 : Heap) (locs1 : List Loc), MwR D A q cI n (uF F j 7 v) B G cnt r thr dv s H1 → va_S A H0 H1 locs1 → W p l e R s m args below meth c H1 locs1 cells slots Q (F0 m (pc + 1) ls rest)) : W p l e R s m args below meth c H locs cells slots Q (F0 m pc ls (.int v :: .int x :: .ref (q 7) :: rest)) := by
  subst hx
  refine va_iast C.1 C.2.1 hw.1 hw.2.1 hw.2.2 hS 6 0 rfl rfl (vp_in_nI hj (by omega)) hdg (fun H1 locs1 h1 h2 h3 => ?_)
  have he : (mws q cI n F B G cnt r thr dv).set 6 (q 7, .inl (cI, 24, .inl (upd (fun a => F a 7) (nI j).toNatClampNeg v))) = mws q cI n (uF F j 7 v) B G cnt r thr dv := by
    rw [nI_clamp (by omega), upd_F]
    unfold mws
    rw [uF_fn (F := F) (j := j) (k := 7) (v := v) (b := 2) (by decide), uF_fn (F := F) (j := j) (k := 7) (v := v) (b := 3) (by decide), uF_fn (F := F) (j := j) (k := 7) (v := v) (b := 5) (by decide), uF_fn (F := F) (j := j) (k := 7) (v := v) (b := 4) (by decide), uF_fn (F := F) (j := j) (k := 7) (v := v) (b := 6) (by decide), uF_fn (F := F) (j := j) (k := 7) (v := v) (b := 8) (by decide), uF_fn (F := F) (j := j) (k := 7) (v := v) (b := 9) (by decide)]
    rfl
  rw [he] at h1 h2
  exact kk H1 locs1 ⟨hw.1, h1, h2⟩ h3
theorem ma_times (C : CallFix p m c cc nL s args wB RX11) (hw : MwR D A q cI n F B G cnt r thr dv s H) {j : Nat} (hj : j < 24) {x : Int32} (hx : x = nI j) (hdg : decode cc pc = .ok (.iaload, 1)) (kk : W p l e R s m args below meth c H locs cells slots Q (F0 m (pc + 1) ls (.int (F j 8) :: rest))) : W p l e R s m args below meth c H locs cells slots Q (F0 m pc ls (.int x :: .ref (q 8) :: rest)) := by
  subst hx
  refine va_iald C.1 C.2.1 hw.1 hw.2.1 7 0 rfl rfl (vp_in_nI hj (by omega)) hdg ?_
  rw [nI_clamp (by omega)]
  exact kk
theorem ms_times (C : CallFix p m c cc nL s args wB RX11) (hw : MwR D A q cI n F B G cnt r thr dv s H) (hS : va_S A H0 H locs) {j : Nat} (hj : j < 24) {x v : Int32} (hx : x = nI j) (hdg : decode cc pc = .ok (.iastore, 1))
    (kk : ∀ (H1 : Heap) (locs1 : List Loc), MwR D A q cI n (uF F j 8 v) B G cnt r thr dv s H1 → va_S A H0 H1 locs1 → W p l e R s m args below meth c H1 locs1 cells slots Q (F0 m (pc + 1) ls rest)) : W p l e R s m args below meth c H locs cells slots Q (F0 m pc ls (.int v :: .int x :: .ref (q 8) :: rest)) := by
  subst hx
  refine va_iast C.1 C.2.1 hw.1 hw.2.1 hw.2.2 hS 7 0 rfl rfl (vp_in_nI hj (by omega)) hdg (fun H1 locs1 h1 h2 h3 => ?_)
  have he : (mws q cI n F B G cnt r thr dv).set 7 (q 8, .inl (cI, 24, .inl (upd (fun a => F a 8) (nI j).toNatClampNeg v))) = mws q cI n (uF F j 8 v) B G cnt r thr dv := by
    rw [nI_clamp (by omega), upd_F]
    unfold mws
    rw [uF_fn (F := F) (j := j) (k := 8) (v := v) (b := 2) (by decide), uF_fn (F := F) (j := j) (k := 8) (v := v) (b := 3) (by decide), uF_fn (F := F) (j := j) (k := 8) (v := v) (b := 5) (by decide), uF_fn (F := F) (j := j) (k := 8) (v := v) (b := 4) (by decide), uF_fn (F := F) (j := j) (k := 8) (v := v) (b := 6) (by decide), uF_fn (F := F) (j := j) (k := 8) (v := v) (b := 7) (by decide), uF_fn (F := F) (j := j) (k := 8) (v := v) (b := 9) (by decide)]
    rfl
  rw [he] at h1 h2
  exact kk H1 locs1 ⟨hw.1, h1, h2⟩ h3
theorem ma_meter (C : CallFix p m c cc nL s args wB RX11) (hw : MwR D A q cI n F B G cnt r thr dv s H) {j : Nat} (hj : j < 24) {x : Int32} (hx : x = nI j) (hdg : decode cc pc = .ok (.iaload, 1)) (kk : W p l e R s m args below meth c H locs cells slots Q (F0 m (pc + 1) ls (.int (F j 9) :: rest))) : W p l e R s m args below meth c H locs cells slots Q (F0 m pc ls (.int x :: .ref (q 9) :: rest)) := by
  subst hx
  refine va_iald C.1 C.2.1 hw.1 hw.2.1 8 0 rfl rfl (vp_in_nI hj (by omega)) hdg ?_
  rw [nI_clamp (by omega)]
  exact kk
theorem ms_meter (C : CallFix p m c cc nL s args wB RX11) (hw : MwR D A q cI n F B G cnt r thr dv s H) (hS : va_S A H0 H locs) {j : Nat} (hj : j < 24) {x v : Int32} (hx : x = nI j) (hdg : decode cc pc = .ok (.iastore, 1))
    (kk : ∀ (H1 : Heap) (locs1 : List Loc), MwR D A q cI n (uF F j 9 v) B G cnt r thr dv s H1 → va_S A H0 H1 locs1 → W p l e R s m args below meth c H1 locs1 cells slots Q (F0 m (pc + 1) ls rest)) : W p l e R s m args below meth c H locs cells slots Q (F0 m pc ls (.int v :: .int x :: .ref (q 9) :: rest)) := by
  subst hx
  refine va_iast C.1 C.2.1 hw.1 hw.2.1 hw.2.2 hS 8 0 rfl rfl (vp_in_nI hj (by omega)) hdg (fun H1 locs1 h1 h2 h3 => ?_)
  have he : (mws q cI n F B G cnt r thr dv).set 8 (q 9, .inl (cI, 24, .inl (upd (fun a => F a 9) (nI j).toNatClampNeg v))) = mws q cI n (uF F j 9 v) B G cnt r thr dv := by
    rw [nI_clamp (by omega), upd_F]
    unfold mws
    rw [uF_fn (F := F) (j := j) (k := 9) (v := v) (b := 2) (by decide), uF_fn (F := F) (j := j) (k := 9) (v := v) (b := 3) (by decide), uF_fn (F := F) (j := j) (k := 9) (v := v) (b := 5) (by decide), uF_fn (F := F) (j := j) (k := 9) (v := v) (b := 4) (by decide), uF_fn (F := F) (j := j) (k := 9) (v := v) (b := 6) (by decide), uF_fn (F := F) (j := j) (k := 9) (v := v) (b := 7) (by decide), uF_fn (F := F) (j := j) (k := 9) (v := v) (b := 8) (by decide)]
    rfl
  rw [he] at h1 h2
  exact kk H1 locs1 ⟨hw.1, h1, h2⟩ h3
theorem ma_row (C : CallFix p m c cc nL s args wB RX11) (hw : MwR D A q cI n F B G cnt r thr dv s H) {j : Nat} (hj : j < 24) {x : Int32} (hx : x = nI j) (hdg : decode cc pc = .ok (.iaload, 1)) (kk : W p l e R s m args below meth c H locs cells slots Q (F0 m (pc + 1) ls (.int (r j) :: rest))) : W p l e R s m args below meth c H locs cells slots Q (F0 m pc ls (.int x :: .ref (q 10) :: rest)) := by
  subst hx
  refine va_iald C.1 C.2.1 hw.1 hw.2.1 9 0 rfl rfl (vp_in_nI hj (by omega)) hdg ?_
  rw [nI_clamp (by omega)]
  exact kk
theorem ms_row (C : CallFix p m c cc nL s args wB RX11) (hw : MwR D A q cI n F B G cnt r thr dv s H) (hS : va_S A H0 H locs) {j : Nat} (hj : j < 24) {x v : Int32} (hx : x = nI j) (hdg : decode cc pc = .ok (.iastore, 1))
    (kk : ∀ (H1 : Heap) (locs1 : List Loc), MwR D A q cI n F B G cnt (upd r j v) thr dv s H1 → va_S A H0 H1 locs1 → W p l e R s m args below meth c H1 locs1 cells slots Q (F0 m (pc + 1) ls rest)) : W p l e R s m args below meth c H locs cells slots Q (F0 m pc ls (.int v :: .int x :: .ref (q 10) :: rest)) := by
  subst hx
  refine va_iast C.1 C.2.1 hw.1 hw.2.1 hw.2.2 hS 9 0 rfl rfl (vp_in_nI hj (by omega)) hdg (fun H1 locs1 h1 h2 h3 => ?_)
  rw [nI_clamp (by omega)] at h1 h2
  exact kk H1 locs1 ⟨hw.1, h1, h2⟩ h3
theorem ma_begun (C : CallFix p m c cc nL s args wB RX11) (hw : MwR D A q cI n F B G cnt r thr dv s H) {j : Nat} (hj : j < 9) {x : Int32} (hx : x = nI j) (hdg : decode cc pc = .ok (.iaload, 1)) (kk : W p l e R s m args below meth c H locs cells slots Q (F0 m (pc + 1) ls (.int (B j) :: rest))) : W p l e R s m args below meth c H locs cells slots Q (F0 m pc ls (.int x :: .ref (q 12) :: rest)) := by
  subst hx
  refine va_iald C.1 C.2.1 hw.1 hw.2.1 10 0 rfl rfl (vp_in_nI hj (by omega)) hdg ?_
  rw [nI_clamp (by omega)]
  exact kk
theorem ms_begun (C : CallFix p m c cc nL s args wB RX11) (hw : MwR D A q cI n F B G cnt r thr dv s H) (hS : va_S A H0 H locs) {j : Nat} (hj : j < 9) {x v : Int32} (hx : x = nI j) (hdg : decode cc pc = .ok (.iastore, 1))
    (kk : ∀ (H1 : Heap) (locs1 : List Loc), MwR D A q cI n F (upd B j v) G cnt r thr dv s H1 → va_S A H0 H1 locs1 → W p l e R s m args below meth c H1 locs1 cells slots Q (F0 m (pc + 1) ls rest)) : W p l e R s m args below meth c H locs cells slots Q (F0 m pc ls (.int v :: .int x :: .ref (q 12) :: rest)) := by
  subst hx
  refine va_iast C.1 C.2.1 hw.1 hw.2.1 hw.2.2 hS 10 0 rfl rfl (vp_in_nI hj (by omega)) hdg (fun H1 locs1 h1 h2 h3 => ?_)
  rw [nI_clamp (by omega)] at h1 h2
  exact kk H1 locs1 ⟨hw.1, h1, h2⟩ h3
/-- begun[j]++ -/
theorem m_bump (C : CallFix p m c cc nL s args wB RX11) (hw : MwR D A q cI n F B G cnt r thr dv s H) (hl1 : Cond.fieldLink RX11 index (TX11 12).1 (TX11 12).2.1 (TX11 12).2.2.1 ∈ wB) (h0 : ls[0]? = some (.val (.ref (q 0)))) (d0 : decode cc pc = .ok (.aload_n 0, 1)) (d1 : decode cc (pc + 1) = .ok (.getfield index, 3))
    (kk : W p l e R s m args below meth c H locs cells slots Q (F0 m (pc + 4) ls (.ref (q 12) :: rest))) : W p l e R s m args below meth c H locs cells slots Q (F0 m pc ls rest) :=
  lv_aload_n C.1 C.2.1 d0 rfl h0 (mg_get C hw 12 (by decide) hl1 rfl d1 kk)
theorem m_inc (C : CallFix p m c cc nL s args wB RX11) (hw : MwR D A q cI n F B G cnt r thr dv s H) (hS : va_S A H0 H locs) {j : Nat} (hj : j < 9) {x : Int32} (hx : x = nI j) (d0 : decode cc pc = .ok (.dup2, 1)) (d1 : decode cc (pc + 1) = .ok (.iaload, 1)) (d2 : decode cc (pc + 2) = .ok (.iconst 1, 1)) (d3 : decode cc (pc + 3) = .ok (.iadd, 1)) (d4 : decode cc (pc + 4) = .ok (.iastore, 1))
    (kk : ∀ (H1 : Heap) (locs1 : List Loc), MwR D A q cI n F (iB B j) G cnt r thr dv s H1 → va_S A H0 H1 locs1 → W p l e R s m args below meth c H1 locs1 cells slots Q (F0 m (pc + 5) ls rest)) : W p l e R s m args below meth c H locs cells slots Q (F0 m pc ls (.int x :: .ref (q 12) :: rest)) := by
  refine lv_dup2_11 C.1 C.2.1 d0 rfl rfl ?_
  refine ma_begun C hw hj hx d1 ?_
  refine lv_iconst (v := 1) C.1 C.2.1 d2 (by decide) ?_
  refine lv_iadd C.1 C.2.1 d3 ?_
  exact ms_begun C hw hS hj hx d4 kk
end MRows
theorem iB_comm (B : Nat → Int32) (a b : Nat) : iB (iB B a) b = iB (iB B b) a := by
  funext j
  unfold iB upd
  by_cases hab : a = b
  · subst hab; rfl
  · by_cases h1 : j = a
    · subst h1
      simp [hab, Ne.symm hab]
    · by_cases h2 : j = b
      · subst h2
        simp [hab, Ne.symm hab]
      · simp [h1, h2]
