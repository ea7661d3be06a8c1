/-! WHAT STAYS TRUE of the state -/
section InvS
variable {P : SwP} {F : Nat → Nat → Int32} {B G B' G' : Nat → Int32} {dk : List Nat} {i : Nat} {h : Int32}
theorem uF_self {k : Nat} {v : Int32} : uF F i k v i k = v := if_pos ⟨rfl, rfl⟩
theorem uF_k {a k b : Nat} {v : Int32} (q : b ≠ k) : uF F i k v a b = F a b := if_neg (fun z => q z.2)
theorem uF_a {a k b : Nat} {v : Int32} (q : a ≠ i) : uF F i k v a b = F a b := if_neg (fun z => q z.1)
theorem Inv.cnt (hI : Inv P (F, B, G, dk)) (h3 : G' 3 = G 3) (h4 : G' 4 = G 4) : Inv P (F, B', G', dk) := by
  obtain ⟨i1, i2, i3, i4, i5, i6, i7, i8⟩ := hI
  exact ⟨i1, by show G' 4 = 0 ∨ G' 4 = 1; rw [h4]; exact i2, i3, i4, by show G' 4 = 0 → _; rw [h4]; exact i5, by show ∃ g : Nat, g ≤ 9000 ∧ G' 3 = nI g; rw [h3]; exact i6, i7, i8⟩
theorem Inv.uf {k : Nat} {v : Int32} (hI : Inv P (F, B, G, dk)) (hi : i < pn P) (h2 : k ≠ 2) (h4 : k ≠ 4) (h6 : k ≠ 6) : Inv P (uF F i k v, B, G, dk) := by
  obtain ⟨i1, i2, i3, i4, i5, i6, i7, i8⟩ := hI
  exact ⟨i1.uf h2, i2, fun j hj => (uF_k h6.symm).trans (i3 j hj), fun j hj hn => (uF_k h6.symm).trans (i4 j hj hn), i5, i6, fun j hj => by show uF F i k v j 4 ≤ 100; rw [uF_k h4.symm]; exact i7 j hj, fun a ha b => (uF_a (fun q => by omega)).trans (i8 a ha b)⟩
theorem fR_shut {K : Nat → Nat} (q : fR K F G dk i = true) : G 4 ≠ 0 := by
  have hp : ∀ {b : Bool}, (fP K F G dk i && b) = true → G 4 ≠ 0 := fun {b} hb => (of_decide_eq_true (Bool.and_eq_true_iff.mp hb).1).1
  unfold fR at q
  by_cases h5 : K i = 5
  · rw [if_pos h5] at q; exact hp q
  · rw [if_neg h5] at q
    by_cases h7 : K i = 7
    · rw [if_pos h7] at q; exact hp q
    · rw [if_neg h7] at q
      by_cases h8 : K i = 8
      · rw [if_pos h8] at q; exact of_decide_eq_true q
      · rw [if_neg h8] at q; exact (of_decide_eq_true q).1
theorem pE_inv {K : Nat → Nat} (hI : Inv P (F, B, G, dk)) (hi : i < pn P) (hn : i ∉ dk) : Inv P (pE K i h (F, B, G, dk)).2 := by
  cases h1 : fR K F G dk i with
  | false => rw [pE_s h1]; exact hI.cnt rfl rfl
  | true =>
    cases h2 : tX (K i) F i with
    | true => rw [pE_x h1 h2]; exact hI.cnt rfl rfl
    | false =>
      rw [pE_0 h1 h2]
      have hI2 : Inv P (uF (uF F i 7 (F i 7 + tR (K i) F i h)) i 8 (F i 8 + 1), tB (K i) h (fB K dk i (iB B 0)), G, dk) := (((hI.uf hi (by decide) (by decide) (by decide)).uf hi (by decide) (by decide) (by decide)).cnt rfl rfl)
      obtain ⟨i1, i2, i3, i4, i5, i6, i7, i8⟩ := hI2
      refine ⟨⟨i1.1, i1.2.1, fun j hj => (uF_k (by decide)).trans (i1.2.2.1 j hj), fun v hv => ?_, ?_⟩, i2, fun j hj => ?_, fun j hj hj2 => ?_, fun q => absurd q (fR_shut h1), i6, fun j hj => ?_, fun a ha b => (uF_a (fun q => by omega)).trans (i8 a ha b)⟩
      · rcases List.mem_append.mp hv with q | q
        · exact i1.2.2.2.1 v q
        · rw [List.mem_singleton.mp q]; exact hi
      · exact List.nodup_append.mpr ⟨i1.2.2.2.2, List.nodup_cons.mpr ⟨List.not_mem_nil, List.nodup_nil⟩, fun a ha b hb q => hn (by rw [← List.mem_singleton.mp hb, ← q]; exact ha)⟩
      · by_cases q : j = i
        · rw [q]; exact uF_self
        · refine (uF_a q).trans (i3 j ?_)
          rcases List.mem_append.mp hj with q2 | q2
          · exact q2
          · exact absurd (List.mem_singleton.mp q2) q
      · have q : j ≠ i := fun q => hj2 (List.mem_append_right _ (by rw [q]; exact List.mem_singleton.mpr rfl))
        exact (uF_a q).trans (i4 j hj (fun q2 => hj2 (List.mem_append_left _ q2)))
      · show uF _ i 6 1 j 4 ≤ 100
        rw [uF_k (by decide)]; exact i7 j hj
theorem mx_lim {g : Nat} (hg : g ≤ 9000) : mx (nI g - 100) 0 = nI (g - 100) := by
  unfold mx
  by_cases q : 100 ≤ g
  · rw [show nI g - 100 = nI (g - 100) from pk_sub q, if_neg (nI_pos (by omega))]
  · rw [if_pos (show nI g - 100 < 0 from pk_sneg (a := g) (b := 100) (by omega) (by omega)), show g - 100 = 0 by omega]
    rfl
theorem mn_lim {g : Nat} (hg : g ≤ 9000) : ∃ g' : Nat, g' ≤ 9000 ∧ mn (nI g + 100) 9000 = nI g' := by
  unfold mn
  rw [show nI g + 100 = nI (g + 100) from nI_add g 100]
  by_cases q : (9000 : Int32) < nI (g + 100)
  · exact ⟨9000, by omega, by rw [if_pos q]; rfl⟩
  · refine ⟨g + 100, ?_, by rw [if_neg q]⟩
    exact Nat.le_of_not_lt (fun z => q (show nI 9000 < nI (g + 100) from nI_lt z (by omega)))
theorem eT_inv {r : Nat × SwSt} (hI : Inv P r.2) : Inv P (eT r).2 := by
  unfold eT
  by_cases q : r.1 = 0
  · rw [if_pos q]
    obtain ⟨i1, i2, i3, i4, i5, ⟨g, hg, e⟩, i7, i8⟩ := hI
    exact ⟨i1, i2, i3, i4, i5, ⟨g - 100, by omega, by show mx (r.2.2.2.1 3 - 100) 0 = _; rw [e]; exact mx_lim hg⟩, i7, i8⟩
  · rw [if_neg q]; exact hI
theorem eN_inv {K : Nat → Nat} (hI : Inv P (F, B, G, dk)) (hi : i < pn P) (hn : i ∉ dk) : Inv P (eN K i h (F, B, G, dk)).2 := by
  unfold eN
  by_cases h3 : K i = 3
  · rw [if_pos h3]; exact pE_inv ((hI.uf hi (by decide) (by decide) (by decide)).cnt rfl rfl) hi hn
  · rw [if_neg h3]
    by_cases h5 : K i = 5
    · rw [if_pos h5]; exact eT_inv (pE_inv (hI.cnt rfl rfl) hi hn)
    · rw [if_neg h5]
      by_cases h6 : K i = 6 ∨ K i = 7
      · rw [if_pos h6]; exact pE_inv ((hI.uf hi (by decide) (by decide) (by decide)).cnt rfl rfl) hi hn
      · rw [if_neg h6]
        by_cases h8 : K i = 8
        · rw [if_pos h8]
          unfold eC
          have hI2 : Inv P (F, iB B 8, G, dk) := hI.cnt rfl rfl
          by_cases q : (pE K i h (F, iB B 8, G, dk)).1 = 1
          · rw [if_pos q, pE_1 q]
            exact pE_inv (hI2.cnt rfl rfl) hi hn
          · rw [if_neg q]; exact pE_inv hI2 hi hn
        · rw [if_neg h8]; exact pE_inv hI hi hn
theorem lP_inv (hI : Inv P (F, B, G, dk)) (hi : i < pn P) : Inv P (uF F i 6 0, B, G, dk.erase i) := by
  obtain ⟨i1, i2, i3, i4, i5, i6, i7, i8⟩ := hI
  have hnd : dk.Nodup := i1.2.2.2.2
  refine ⟨(i1.uf (by decide)).er, i2, fun j hj => ?_, fun j hj hj2 => ?_, fun q => by show dk.erase i = []; rw [show dk = [] from i5 q]; rfl, i6, fun j hj => ?_, fun a ha b => (uF_a (fun q => by omega)).trans (i8 a ha b)⟩
  · have q := hnd.mem_erase_iff.mp hj
    exact (uF_a q.1).trans (i3 j q.2)
  · by_cases q : j = i
    · rw [q]; exact uF_self
    · exact (uF_a q).trans (i4 j hj (fun q2 => hj2 (hnd.mem_erase_iff.mpr ⟨q, q2⟩)))
  · show uF F i 6 0 j 4 ≤ 100
    rw [uF_k (by decide)]; exact i7 j hj
theorem lR_inv {K : Nat → Nat} (hI : Inv P (F, B, G, dk)) (hi : i < pn P) : Inv P (lR K i (F, B, G, dk)) := by
  have h0 := lP_inv hI hi
  unfold lR
  by_cases h3 : K i = 3
  · rw [if_pos h3]; exact (h0.uf hi (by decide) (by decide) (by decide)).cnt rfl rfl
  · rw [if_neg h3]
    by_cases h5 : K i = 5
    · rw [if_pos h5]
      obtain ⟨i1, i2, i3, i4, i5, ⟨g, hg, e⟩, i7, i8⟩ := (h0.uf (k := 5) (v := F i 5 / 2) hi (by decide) (by decide) (by decide))
      refine ⟨i1, i2, i3, i4, i5, ?_, i7, i8⟩
      show ∃ g : Nat, g ≤ 9000 ∧ mn (G 3 + 100) 9000 = nI g
      rw [show G 3 = nI g from e]
      exact mn_lim hg
    · rw [if_neg h5]
      by_cases h4 : K i = 4 ∨ K i = 6 ∨ K i = 7
      · rw [if_pos h4]; exact (h0.uf hi (by decide) (by decide) (by decide)).cnt rfl rfl
      · rw [if_neg h4]; exact h0.cnt rfl rfl
/-- all on the row leave; all ashore enter -/
def clr (K : Nat → Nat) : Nat → SwSt → SwSt
  | 0, z => z
  | k + 1, z => match z.2.2.2 with
    | [] => z
    | v :: _ => clr K k (lR K v z)
def rsh (K : Nat → Nat) (h : Int32) : Nat → Nat → Int32 → SwSt → Int32 × SwSt
  | 0, _, c, z => (c, z)
  | k + 1, j, c, z => if z.1 j 6 = 0 then rsh K h k (j + 1) (if (eN K j h z).1 = 0 then c + 1 else c) (eN K j h z).2 else rsh K h k (j + 1) c z
def oClear (K : Nat → Nat) (z : SwSt) : R3 := (0, nI z.2.2.2.length, clr K z.2.2.2.length z)
def oRush (K : Nat → Nat) (n : Nat) (h : Int32) (z : SwSt) : R3 := if outs h 0 23 = true then (0, -102, z) else (0, rsh K h n 0 0 z)
theorem lR_dk {K : Nat → Nat} {z : SwSt} : (lR K i z).2.2.2 = z.2.2.2.erase i := by
  unfold lR
  split
  · rfl
  · split
    · rfl
    · split <;> rfl
theorem clr_inv {K : Nat → Nat} : ∀ (k : Nat) (z : SwSt), Inv P z → Inv P (clr K k z)
  | 0, z, hI => hI
  | k + 1, (F, B, G, []), hI => hI
  | k + 1, (F, B, G, v :: t), hI => clr_inv k _ (lR_inv hI (hI.1.2.2.2.1 v List.mem_cons_self))
theorem rsh_inv {K : Nat → Nat} : ∀ (k j : Nat) (c : Int32) (z : SwSt), j + k ≤ pn P → Inv P z → Inv P (rsh K h k j c z).2
  | 0, j, c, z, _, hI => hI
  | k + 1, j, c, (F, B, G, dk), hk, hI => by
    unfold rsh
    by_cases q : F j 6 = 0
    · rw [if_pos q]
      exact rsh_inv k (j + 1) _ _ (by omega) (eN_inv hI (by omega) (fun q2 => absurd ((hI.2.2.1 j q2).symm.trans q) (by decide)))
    · rw [if_neg q]
      exact rsh_inv k (j + 1) _ _ (by omega) hI
end InvS
