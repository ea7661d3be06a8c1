/-! THE STATE. (F, B, G, dk): F i k: field k of vehicle i (2 kind, 3 mass, 4 share, 5 load, 6 place, 7 paid, 8 times, 9 meter); B: begun; G: 3 limit, 4 shut, 5 stops, 6 failures; dk: the deck's row, by numbers.
P: the addresses: pS object, pB bridge, pV vehicles, pD deck, pN begun; pR, pI: array classes; pn: how many vehicles; pa i, pk i: address and kind of vehicle i. -/
abbrev SwSt : Type := (Nat → Nat → Int32) × (Nat → Int32) × (Nat → Int32) × List Nat
abbrev SwP : Type := (Nat → Nat) × (Nat → Nat) × (Nat → Nat)
def pS (P : SwP) : Nat := P.1 0
def pB (P : SwP) : Nat := P.1 1
def pV (P : SwP) : Nat := P.1 2
def pD (P : SwP) : Nat := P.1 3
def pN (P : SwP) : Nat := P.1 4
def pR (P : SwP) : Nat := P.1 5
def pI (P : SwP) : Nat := P.1 6
def pn (P : SwP) : Nat := P.1 7
def pa (P : SwP) : Nat → Nat := P.2.1
def pk (P : SwP) : Nat → Nat := P.2.2
def uF (F : Nat → Nat → Int32) (i k : Nat) (v : Int32) : Nat → Nat → Int32 := fun a b => if a = i ∧ b = k then v else F a b
def iB (B : Nat → Int32) (j : Nat) : Nat → Int32 := upd B j (B j + 1)
/-- the classes of the worlds: 0..8 the kinds by their numbers, 9 Bridge, 10 SwingBridge, 11 the reference -/
abbrev sCl : List vw_C := [(RX4, TX4, 10), (RX9, TX4, 10), (RX3, TX4, 10), (RX2, TX4, 10), (RX7, TX4, 10), (RX8, TX4, 10), (RX1, TX4, 10), (RX6, TX4, 10), (RX5, TX4, 10), (RX0, TX0, 7), (RX10, TX10, 3), (RX11, TX11, 18)]
def cN (k : Nat) : String := match k with
  | 0 => RX4 | 1 => RX9 | 2 => RX3 | 3 => RX2 | 4 => RX7 | 5 => RX8 | 6 => RX1 | 7 => RX6 | _ => RX5
theorem sCl_k {k : Nat} (h : k < 9) : sCl[k]? = some (cN k, TX4, 10) := by
  match k, h with
  | 0, _ => rfl
  | 1, _ => rfl
  | 2, _ => rfl
  | 3, _ => rfl
  | 4, _ => rfl
  | 5, _ => rfl
  | 6, _ => rfl
  | 7, _ => rfl
  | 8, _ => rfl
  | k + 9, h => exact absurd h (by omega)
theorem inX4 : ∀ w ∈ u_ws RX4 TX4 10, w ∈ wB := by decide +kernel
theorem inX9 : ∀ w ∈ u_ws RX9 TX4 10, w ∈ wB := by decide +kernel
theorem inX3 : ∀ w ∈ u_ws RX3 TX4 10, w ∈ wB := by decide +kernel
theorem inX2 : ∀ w ∈ u_ws RX2 TX4 10, w ∈ wB := by decide +kernel
theorem inX7 : ∀ w ∈ u_ws RX7 TX4 10, w ∈ wB := by decide +kernel
theorem inX8 : ∀ w ∈ u_ws RX8 TX4 10, w ∈ wB := by decide +kernel
theorem inX1 : ∀ w ∈ u_ws RX1 TX4 10, w ∈ wB := by decide +kernel
theorem inX6 : ∀ w ∈ u_ws RX6 TX4 10, w ∈ wB := by decide +kernel
theorem inX5 : ∀ w ∈ u_ws RX5 TX4 10, w ∈ wB := by decide +kernel
theorem inX0 : ∀ w ∈ u_ws RX0 TX0 7, w ∈ wB := by decide +kernel
theorem inX10 : ∀ w ∈ u_ws RX10 TX10 3, w ∈ wB := by decide +kernel
theorem inX11 : ∀ w ∈ u_ws RX11 TX11 18, w ∈ wB := by decide +kernel
theorem inK {k : Nat} (h : k < 9) : ∀ w ∈ u_ws (cN k) TX4 10, w ∈ wB := by
  match k, h with
  | 0, _ => exact inX4
  | 1, _ => exact inX9
  | 2, _ => exact inX3
  | 3, _ => exact inX2
  | 4, _ => exact inX7
  | 5, _ => exact inX8
  | 6, _ => exact inX1
  | 7, _ => exact inX6
  | 8, _ => exact inX5
  | k + 9, h => exact absurd h (by omega)
/-- a vehicle's cell, the bridge's fields, the object's world -/
def vfs (P : SwP) (F : Nat → Nat → Int32) (i : Nat) : List Value := [.ref (pB P), .int (nI i), .int (F i 2), .int (F i 3), .int (F i 4), .int (F i 5), .int (F i 6), .int (F i 7), .int (F i 8), .int (F i 9)]
def vcell (P : SwP) (F : Nat → Nat → Int32) (i : Nat) : Nat × va_E := (pa P i, .inr (pk P i, vfs P F i))
def bfs (P : SwP) (n : Int32) (G : Nat → Int32) : List Value := [.ref (pD P), .ref (pN P), .int n, .int (G 3), .int (G 4), .int (G 5), .int (G 6)]
def vfd (P : SwP) : Nat → Option Nat := fun k => if k < pn P then some (pa P k) else none
def dfd (P : SwP) (dk : List Nat) : Nat → Option Nat := fun k => (dk[k]?).map (pa P)
def xfix (P : SwP) (B G : Nat → Int32) (n : Int32) (fd : Nat → Option Nat) : va_W := [(pS P, .inr (10, [.ref (pB P), .ref (pV P), .int (nI (pn P))])), (pB P, .inr (9, bfs P n G)), (pV P, .inl (pR P, 24, .inr (.inr (.inr (.inr (vfd P)))))), (pD P, .inl (pR P, 24, .inr (.inr (.inr (.inr fd))))), (pN P, .inl (pI P, 9, .inl B))]
def xws (P : SwP) (F : Nat → Nat → Int32) (B G : Nat → Int32) (n : Int32) (fd : Nat → Option Nat) : va_W := xfix P B G n fd ++ (List.range (pn P)).map (vcell P F)
abbrev xty (P : SwP) : List (ClassId × FieldType) := [(pR P, .object RX4), (pI P, .int)]
/-- the world, raw: at a state's tables s and a heap H -/
def XwR (D : va_G) (A : Nat → Prop) (P : SwP) (F : Nat → Nat → Int32) (B G : Nat → Int32) (n : Int32) (fd : Nat → Option Nat) (s : State) (H : Heap) : Prop :=
  va_K D sCl (xty P) s ∧ va_P D sCl (xws P F B G n fd) H ∧ va_D A (xws P F B G n fd)
/-- the world of a state -/
abbrev XwH (D : va_G) (A : Nat → Prop) (P : SwP) (z : SwSt) (s : State) (H : Heap) : Prop := XwR D A P z.1 z.2.1 z.2.2.1 (nI z.2.2.2.length) (dfd P z.2.2.2) s H
theorem XwR.moved {D : va_G} {A : Nat → Prop} {P : SwP} {F : Nat → Nat → Int32} {B G : Nat → Int32} {n : Int32} {fd : Nat → Option Nat} {s u : State} {H : Heap} (h : XwR D A P F B G n fd s H) (hvm : s.vm.Alike u.vm) : XwR D A P F B G n fd u H := ⟨va_K.moved hvm h.1, h.2.1, h.2.2⟩
theorem xws_v {P : SwP} {F : Nat → Nat → Int32} {B G : Nat → Int32} {n : Int32} {fd : Nat → Option Nat} {i : Nat} (hi : i < pn P) : (xws P F B G n fd)[5 + i]? = some (pa P i, .inr (pk P i, vfs P F i)) := by
  unfold xws
  rw [List.getElem?_append_right (by simp [xfix])]
  simp [xfix, hi, vcell]
theorem vfs_set {P : SwP} {F : Nat → Nat → Int32} {i k : Nat} {v : Int32} (h5 : 5 ≤ k) (h9 : k < 10) : (vfs P F i).set k (.int v) = vfs P (uF F i k v) i := by
  rcases (show k = 5 ∨ k = 6 ∨ k = 7 ∨ k = 8 ∨ k = 9 by omega) with rfl | rfl | rfl | rfl | rfl <;> simp [vfs, uF]
theorem vfs_ne {P : SwP} {F : Nat → Nat → Int32} {i j k : Nat} {v : Int32} (h : j ≠ i) : vfs P (uF F i k v) j = vfs P F j := by
  simp [vfs, uF, h]
theorem xws_set_v {P : SwP} {F : Nat → Nat → Int32} {B G : Nat → Int32} {n : Int32} {fd : Nat → Option Nat} {i k : Nat} {v : Int32} (hi : i < pn P) (h5 : 5 ≤ k) (h9 : k < 10) : (xws P F B G n fd).set (5 + i) (pa P i, .inr (pk P i, (vfs P F i).set k (.int v))) = xws P (uF F i k v) B G n fd := by
  unfold xws
  rw [List.set_append_right _ _ (by simp [xfix])]
  congr 1
  rw [vfs_set h5 h9]
  refine List.ext_getElem? (fun j => ?_)
  simp only [List.length_cons, List.length_nil, xfix]
  rw [show (5 + i - (0 + 1 + 1 + 1 + 1 + 1)) = i by omega]
  rw [List.getElem?_set]
  by_cases hj : i = j
  · subst hj
    simp [hi, vcell]
  · rw [if_neg hj]
    by_cases hjn : j < pn P
    · simp [hjn, vcell, vfs_ne (fun e => hj e.symm)]
    · simp [hjn]
