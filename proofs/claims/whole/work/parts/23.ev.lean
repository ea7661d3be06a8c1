/-! WHAT A THROW NEEDS of the state: kept by every method, since none of it is written. -/
abbrev ISE : String := "java/lang/IllegalStateException"
abbrev AE : String := "java/lang/ArithmeticException"
abbrev dcR : Cond := .declares (Bundle.initS "java/lang/RuntimeException")
abbrev dcE : Cond := .declares (Bundle.initS "java/lang/Exception")
abbrev dcT : Cond := .declares (Bundle.initS Bundle.tN)
def Ev (A : Nat → Prop) (U : State) : Prop := (∀ q : Nat, U.heap.size ≤ q → A q) ∧ Asg U ∧ (va_Nw (.castable ISE ISE) U ∧ va_Nw (.castable AE AE) U ∧ va_Nc AE ISE U) ∧ (va_Nw dcR U ∧ va_Nw dcE U ∧ va_Nw dcT U) ∧ (vx_Zq Bundle.tN "UNASSIGNED_STACK" Bundle.steD A U U.heap ∧ vx_Zq Bundle.tN "SUPPRESSED_SENTINEL" Bundle.listD A U U.heap) ∧ ∃ sa sb : Nat, vk_R RX4 73 "stopped" sa U ∧ vk_R RX5 30 "no load to divide by" sb U
theorem Ev.go {A : Nat → Prop} {s U : State} {H : Heap} {locs : List Loc} (h : Ev A s) (hS : va_S A s.heap H locs) (hU : U.heap = H) (hW : s.WarmedH U.vm) : Ev A U := by
  obtain ⟨h1, h2, ⟨h3, h4, h5⟩, ⟨u1, u2, u3⟩, ⟨h6, h7⟩, sa, sb, h8, h9⟩ := h
  refine ⟨fun q hq => h1 q (Nat.le_trans hS.1 (by rw [← hU]; exact hq)), h2.moved hW.alike, ⟨va_Nw.warmC hW h3, va_Nw.warmC hW h4, h5.moved hW.alike⟩, ⟨va_Nw.warmD hW u1, va_Nw.warmD hW u2, va_Nw.warmD hW u3⟩, ⟨?_, ?_⟩, sa, sb, vk_R.warm hW h8, vk_R.warm hW h9⟩
  · rw [hU]; exact (h6.moved hW.alike).kept (fun a ha hn => hS.2.1 a ha hn)
  · rw [hU]; exact (h7.moved hW.alike).kept (fun a ha hn => hS.2.1 a ha hn)
theorem Ev.same {A : Nat → Prop} {u U : State} (h : Ev A u) (hv : U.vm = u.vm) (hh : U.heap = u.heap) : Ev A U := by
  obtain ⟨h1, h2, ⟨h3, h4, h5⟩, ⟨u1, u2, u3⟩, ⟨h6, h7⟩, sa, sb, h8, h9⟩ := h
  have hal : u.vm.Alike U.vm := by rw [hv]; exact Vm.Alike.refl u.vm
  refine ⟨fun q hq => h1 q (by rw [← hh]; exact hq), h2.moved hal, ⟨va_Nw.same rfl hv.symm h3, va_Nw.same rfl hv.symm h4, h5.moved hal⟩, ⟨va_Nw.same rfl hv.symm u1, va_Nw.same rfl hv.symm u2, va_Nw.same rfl hv.symm u3⟩, ⟨?_, ?_⟩, sa, sb, vk_R.same hv h8, vk_R.same hv h9⟩
  · rw [hh]; exact h6.moved hal
  · rw [hh]; exact h7.moved hal
theorem Ev.narrow {A A' : Nat → Prop} {U : State} (h : Ev A U) (hA : ∀ q, A' q → A q) (hf : ∀ q : Nat, U.heap.size ≤ q → A' q) : Ev A' U := by
  obtain ⟨h1, h2, h3, h4, ⟨h6, h7⟩, h8⟩ := h
  exact ⟨hf, h2, h3, h4, ⟨h6.narrow hA, h7.narrow hA⟩, h8⟩
section XThrow
variable {p : Program} {l : Launch} {e : Env} {R : Room} {s : State} {m : MethodId} {args : Array Value} {below : List Frame} {meth : Method} {c : Code} {H : Heap} {locs : List Loc} {cells slots : Nat}
variable {cc : ByteArray} {nL pc : Nat} {ls : Array Slot} {rest : List Value} {rm : Room} {Post : State → Prop} {oc : Option Value ⊕ String} {D : va_G} {A : Nat → Prop} {P : SwP} {F : Nat → Nat → Int32} {B G : Nat → Int32} {n : Int32} {fd : Nat → Option Nat} {dk : List Nat}
theorem Xe_bl : Bl (fun U => Ev A U ∧ Xp D A P F B G dk U) := fun U g mk a h => ⟨h.1.same (U := U.calling g mk a) rfl rfl, Xp_bl U g mk a h.2⟩
theorem x_grow {t : State} (hw : XwR D A P F B G n fd s H) (hvm : s.vm.Alike t.vm) (hk : ∀ q : Nat, q < H.size → t.heap[q]? = H[q]?) : XwR D A P F B G n fd t t.heap := ⟨va_K.moved hvm hw.1, hw.2.1.kept (fun k q hq => hk q.1 (vx_lt hw.2.1 hq)), hw.2.2⟩
theorem f_grow {t : State} (hS : va_S A s.heap H locs) (hz : H.size ≤ t.heap.size) (hk : ∀ q : Nat, q < H.size → t.heap[q]? = H[q]?) : va_F A s t := ⟨Nat.le_trans hS.1 hz, fun q h1 h2 => (hk q (Nat.lt_of_lt_of_le h1 hS.1)).trans (hS.2.1 q h1 h2)⟩
abbrev exN : List String := ["java/lang/RuntimeException", "java/lang/Exception"]
theorem at4g : ∀ w ∈ (vx_atS RX4 75 ISE exN).filter goodWord, w ∈ wB := by decide +kernel
theorem at4b : ∀ w ∈ (vx_atS RX4 75 ISE exN).filter (fun w => !goodWord w), w ∈ [Cond.castable ISE ISE, dcR, dcE, dcT] := by decide +kernel
theorem at4o : ∀ w ∈ Cond.classLink RX4 71 ISE :: Cond.initialized ISE :: vx_atS RX4 75 ISE exN, vx_ot w = true := by decide +kernel
theorem at5g : ∀ w ∈ (vx_atS RX5 32 AE exN).filter goodWord, w ∈ wB := by decide +kernel
theorem at5b : ∀ w ∈ (vx_atS RX5 32 AE exN).filter (fun w => !goodWord w), w ∈ [Cond.castable AE AE, dcR, dcE, dcT] := by decide +kernel
theorem at5o : ∀ w ∈ Cond.classLink RX5 28 AE :: Cond.initialized AE :: vx_atS RX5 32 AE exN, vx_ot w = true := by decide +kernel
/-- throw new IllegalStateException("stopped"), in Cart -/
theorem x_thr4 (C : CallFix p m c cc nL s args wB RX4) (hlt : l.stackTraces = false) (hE : Ev A s) (hlocks : meth.locks = false) (hout : ∀ x ∈ c.exceptionTable.toList, False) (hS : va_S A s.heap H locs) (hsize : ls.size = nL)
    (d0 : decode cc pc = .ok (.new 71, 3)) (d3 : decode cc (pc + 3) = .ok (.dup, 1)) (d4 : decode cc (pc + 4) = .ok (.ldc 73, 2)) (d6 : decode cc (pc + 6) = .ok (.invokespecial 75, 3)) (d9 : decode cc (pc + 9) = .ok (.athrow, 1))
    (hR : 5 < R.frames ∧ (rest.map fun v => v.category).sum + 82 ≤ R.locals ∧ cells + 1 ≤ R.cells ∧ slots + 6 ≤ R.slots) (hc : cells + 1 ≤ rm.cells) (hs : slots + 6 ≤ rm.slots) (hoc : oc = .inr ISE) (hp : ∀ t : State, s.vm.Alike t.vm → (∀ q : Nat, q < H.size → t.heap[q]? = H[q]?) → Post t) :
    W p l e R s m args below meth c H locs cells slots (CtQ below s args rm A oc Post) (F0 m pc ls rest) := by
  obtain ⟨h1, h2, ⟨h3, h4, h5⟩, ⟨u1, u2, u3⟩, ⟨h6, h7⟩, sa, sb, h8, h9⟩ := hE
  exact vx_throwS (names := exN) (A := A) C.1 C.2.1 hlt C.2.2.2.1 (by decide) (by decide) (C.2.2.2.2 _ (by decide +kernel)) (C.2.2.2.2 _ (by decide +kernel)) h8 (vx_hat (fun w hw => C.2.2.2.2 _ (at4g w hw)) at4b (vx_c (va_Nw.use rfl h3) (vx_c (va_Nw.use rfl u1) (vx_c (va_Nw.use rfl u2) (vx_c (va_Nw.use rfl u3) vx_n))))) at4o h6 h7 hS (hsize.trans C.2.2.1.symm) d0 d3 d4 d6 d9 (fun x hx => absurd (hout x hx) id) hR.1 hR.2.1 hR.2.2.1 hR.2.2.2 hlocks (fun t hvm hz hk => ⟨hoc, hp t hvm hk, f_grow hS hz hk⟩) hS.2.2 hc hs
/-- throw new ArithmeticException(".."), in Cycle -/
theorem x_thr5 (C : CallFix p m c cc nL s args wB RX5) (hlt : l.stackTraces = false) (hE : Ev A s) (hlocks : meth.locks = false) (hout : ∀ x ∈ c.exceptionTable.toList, False) (hS : va_S A s.heap H locs) (hsize : ls.size = nL)
    (d0 : decode cc pc = .ok (.new 28, 3)) (d3 : decode cc (pc + 3) = .ok (.dup, 1)) (d4 : decode cc (pc + 4) = .ok (.ldc 30, 2)) (d6 : decode cc (pc + 6) = .ok (.invokespecial 32, 3)) (d9 : decode cc (pc + 9) = .ok (.athrow, 1))
    (hR : 5 < R.frames ∧ (rest.map fun v => v.category).sum + 82 ≤ R.locals ∧ cells + 1 ≤ R.cells ∧ slots + 6 ≤ R.slots) (hc : cells + 1 ≤ rm.cells) (hs : slots + 6 ≤ rm.slots) (hoc : oc = .inr AE) (hp : ∀ t : State, s.vm.Alike t.vm → (∀ q : Nat, q < H.size → t.heap[q]? = H[q]?) → Post t) :
    W p l e R s m args below meth c H locs cells slots (CtQ below s args rm A oc Post) (F0 m pc ls rest) := by
  obtain ⟨h1, h2, ⟨h3, h4, h5⟩, ⟨u1, u2, u3⟩, ⟨h6, h7⟩, sa, sb, h8, h9⟩ := hE
  exact vx_throwS (names := exN) (A := A) C.1 C.2.1 hlt C.2.2.2.1 (by decide) (by decide) (C.2.2.2.2 _ (by decide +kernel)) (C.2.2.2.2 _ (by decide +kernel)) h9 (vx_hat (fun w hw => C.2.2.2.2 _ (at5g w hw)) at5b (vx_c (va_Nw.use rfl h4) (vx_c (va_Nw.use rfl u1) (vx_c (va_Nw.use rfl u2) (vx_c (va_Nw.use rfl u3) vx_n))))) at5o h6 h7 hS (hsize.trans C.2.2.1.symm) d0 d3 d4 d6 d9 (fun x hx => absurd (hout x hx) id) hR.1 hR.2.1 hR.2.2.1 hR.2.2.2 hlocks (fun t hvm hz hk => ⟨hoc, hp t hvm hk, f_grow hS hz hk⟩) hS.2.2 hc hs
end XThrow
