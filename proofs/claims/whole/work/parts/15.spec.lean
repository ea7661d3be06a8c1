/-! WHAT THE ACTS ARE, as numbers. k: a vehicle's kind; K: the kinds of all. -/
def wR (k : Nat) (F : Nat → Nat → Int32) (i : Nat) : Int32 := if k = 5 then F i 3 + F i 5 + F i 5 / 4 else if k = 7 then F i 3 + F i 5 - 10 else if k = 4 ∨ k = 6 then F i 3 + F i 5 else F i 3
def wBk (k : Nat) (B : Nat → Int32) : Nat → Int32 := if k = 5 then iB (iB (iB B 5) 4) 0 else if k = 7 then iB (iB (iB B 7) 4) 0 else if k = 4 ∨ k = 6 then iB (iB B 4) 0 else iB B 0
/-- TOLL by CART's RULE -/
def tP (k : Nat) (F : Nat → Nat → Int32) (i : Nat) : Int32 := 5 + wR k F i / 100
def tPB (k : Nat) (B : Nat → Int32) : Nat → Int32 := wBk k (iB B 0)
def tR (k : Nat) (F : Nat → Nat → Int32) (i : Nat) (h : Int32) : Int32 :=
  if k = 2 then tP k F i + 10 else if k = 3 then (if 20 ≤ h then 2 * (tP k F i + 10) else if 6 ≤ h then tP k F i + 10 + F i 9 else 2 * (tP k F i + 10)) else if k = 5 then tP k F i + 50
  else if k = 7 then (if 22 ≤ h then 0 else if 5 ≤ h then tP k F i else 0) else if k = 8 then (if F i 5 = 0 then 0 else 100 / F i 5) else tP k F i
def tB (k : Nat) (h : Int32) (B : Nat → Int32) : Nat → Int32 :=
  if k = 2 then tPB k (iB B 2) else if k = 3 then tPB k (iB (iB B 3) 2) else if k = 5 then tPB k (iB B 5)
  else if k = 7 then (if 22 ≤ h then iB B 7 else if 5 ≤ h then tPB k (iB B 7) else iB B 7) else if k = 8 then iB B 8 else tPB k B
/-- TOLL fails by ARITHMETIC -/
def tX (k : Nat) (F : Nat → Nat → Int32) (i : Nat) : Bool := decide (k = 8 ∧ F i 5 = 0)
/-- the WEIGHTS of a row: their sum upon x, and what began by them -/
def sumW (K : Nat → Nat) (F : Nat → Nat → Int32) : List Nat → Int32 → Int32
  | [], x => x
  | v :: t, x => sumW K F t (x + wR (K v) F v)
def sumB (K : Nat → Nat) : List Nat → (Nat → Int32) → (Nat → Int32)
  | [], B => B
  | v :: t, B => sumB K t (wBk (K v) B)
/-- FIT by CART's RULE -/
def fP (K : Nat → Nat) (F : Nat → Nat → Int32) (G : Nat → Int32) (dk : List Nat) (i : Nat) : Bool := decide (G 4 ≠ 0 ∧ sumW K F dk 0 + wR (K i) F i ≤ G 3)
def fPB (K : Nat → Nat) (dk : List Nat) (i : Nat) (B : Nat → Int32) : Nat → Int32 := wBk (K i) (sumB K dk (iB B 0))
def isBus (k : Nat) : Bool := decide (k = 6 ∨ k = 7)
def fR (K : Nat → Nat) (F : Nat → Nat → Int32) (G : Nat → Int32) (dk : List Nat) (i : Nat) : Bool :=
  if K i = 5 then fP K F G dk i && dk.isEmpty else if K i = 7 then fP K F G dk i && !(dk.any (fun v => isBus (K v))) else if K i = 8 then decide (G 4 ≠ 0) else fP K F G dk i
def fB (K : Nat → Nat) (dk : List Nat) (i : Nat) (B : Nat → Int32) : Nat → Int32 :=
  if K i = 5 then fPB K dk i (iB B 5) else if K i = 7 then fPB K dk i (iB B 7) else if K i = 8 then iB B 8 else fPB K dk i B
def b2i (b : Bool) : Int32 := if b = true then 1 else 0
/-- ENTER by CART's RULE: how it ended (0 came on, 1 STOPPED, 2 ARITHMETIC) and the state -/
def pE (K : Nat → Nat) (i : Nat) (h : Int32) (z : SwSt) : Nat × SwSt :=
  if fR K z.1 z.2.2.1 z.2.2.2 i = false then (1, z.1, fB K z.2.2.2 i (iB z.2.1 0), upd z.2.2.1 5 (z.2.2.1 5 + 1), z.2.2.2)
  else if tX (K i) z.1 i = true then (2, z.1, tB (K i) h (fB K z.2.2.2 i (iB z.2.1 0)), upd z.2.2.1 6 (z.2.2.1 6 + 1), z.2.2.2)
  else (0, uF (uF (uF z.1 i 7 (z.1 i 7 + tR (K i) z.1 i h)) i 8 (z.1 i 8 + 1)) i 6 1, tB (K i) h (fB K z.2.2.2 i (iB z.2.1 0)), z.2.2.1, z.2.2.2 ++ [i])
def mn (a b : Int32) : Int32 := if b < a then b else a
def mx (a b : Int32) : Int32 := if a < b then b else a
/-- ENTER -/
def eR (K : Nat → Nat) (i : Nat) (h : Int32) (z : SwSt) : Nat × SwSt :=
  if K i = 3 then pE K i h (uF z.1 i 9 (z.1 i 9 + 1), iB z.2.1 3, z.2.2)
  else if K i = 5 then (if (pE K i h (z.1, iB z.2.1 5, z.2.2)).1 = 0 then (0, (pE K i h (z.1, iB z.2.1 5, z.2.2)).2.1, (pE K i h (z.1, iB z.2.1 5, z.2.2)).2.2.1, upd (pE K i h (z.1, iB z.2.1 5, z.2.2)).2.2.2.1 3 (mx ((pE K i h (z.1, iB z.2.1 5, z.2.2)).2.2.2.1 3 - 100) 0), (pE K i h (z.1, iB z.2.1 5, z.2.2)).2.2.2.2) else pE K i h (z.1, iB z.2.1 5, z.2.2))
  else if K i = 6 ∨ K i = 7 then pE K i h (uF z.1 i 5 (mn (z.1 i 5 + 40) 5000), iB z.2.1 6, z.2.2)
  else if K i = 8 then (if (pE K i h (z.1, iB z.2.1 8, z.2.2)).1 = 1 then pE K i h (pE K i h (z.1, iB z.2.1 8, z.2.2)).2 else pE K i h (z.1, iB z.2.1 8, z.2.2))
  else pE K i h z
/-- LEAVE -/
def lR (K : Nat → Nat) (i : Nat) (z : SwSt) : SwSt :=
  if K i = 3 then (uF (uF z.1 i 6 0) i 9 0, iB (iB z.2.1 3) 0, z.2.2.1, z.2.2.2.erase i)
  else if K i = 5 then (uF (uF z.1 i 6 0) i 5 (z.1 i 5 / 2), iB (iB (iB z.2.1 5) 4) 0, upd z.2.2.1 3 (mn (z.2.2.1 3 + 100) 9000), z.2.2.2.erase i)
  else if K i = 4 ∨ K i = 6 ∨ K i = 7 then (uF (uF z.1 i 6 0) i 5 (z.1 i 5 / 2), iB (iB z.2.1 4) 0, z.2.2.1, z.2.2.2.erase i)
  else (uF z.1 i 6 0, iB z.2.1 0, z.2.2.1, z.2.2.2.erase i)
/-- REBATE -/
def rR (k : Nat) (F : Nat → Nat → Int32) (i : Nat) : Int32 := if k = 2 ∨ k = 3 then mn (F i 4 + 5) 100 else if k = 7 then mn (2 * F i 4) 100 else F i 4
def rB (k : Nat) (B : Nat → Int32) : Nat → Int32 := if k = 2 ∨ k = 3 then iB (iB B 2) 0 else if k = 7 then iB (iB B 7) 0 else iB B 0
def hasAcc (k : Nat) : Bool := decide (k = 3 ∨ k = 6 ∨ k = 7)
/-- BILL, MONTH -/
def bR (k : Nat) (F : Nat → Nat → Int32) (i : Nat) (h : Int32) : Int32 := tR k F i h - tR k F i h * rR k F i / 100
def bB (k : Nat) (h : Int32) (B : Nat → Int32) : Nat → Int32 := rB k (tB k h B)
def mR (k : Nat) (F : Nat → Nat → Int32) (i : Nat) (n : Int32) : Int32 := if k = 7 then 15 * n + bR k F i 23 else 20 * n + bR k F i 12
def mB (k : Nat) (B : Nat → Int32) : Nat → Int32 := if k = 7 then bB k 23 B else bB k 12 B
