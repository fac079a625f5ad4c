/-! count -/
theorem cd_ones (B : Nat → Bool) {p : Nat} (hp : p ≤ 5) : it (fun w (c : Int32) => if B w = true then c else c + 1) p 0 0 = rOnes (it (fun k (s : Int32) => s ||| (if B k = true then (0 : Int32) else 1 <<< (nI k &&& 31))) p 0 0) := by
  have : p = 0 ∨ p = 1 ∨ p = 2 ∨ p = 3 ∨ p = 4 ∨ p = 5 := by omega
  rcases this with rfl | rfl | rfl | rfl | rfl | rfl
  · simp only [it]; decide +kernel
  · simp only [it, Nat.zero_add, Nat.reduceAdd]
    generalize B 0 = b0
    revert b0; decide +kernel
  · simp only [it, Nat.zero_add, Nat.reduceAdd]
    generalize B 0 = b0
    generalize B 1 = b1
    revert b0 b1; decide +kernel
  · simp only [it, Nat.zero_add, Nat.reduceAdd]
    generalize B 0 = b0
    generalize B 1 = b1
    generalize B 2 = b2
    revert b0 b1 b2; decide +kernel
  · simp only [it, Nat.zero_add, Nat.reduceAdd]
    generalize B 0 = b0
    generalize B 1 = b1
    generalize B 2 = b2
    generalize B 3 = b3
    revert b0 b1 b2 b3; decide +kernel
  · simp only [it, Nat.zero_add, Nat.reduceAdd]
    generalize B 0 = b0
    generalize B 1 = b1
    generalize B 2 = b2
    generalize B 3 = b3
    generalize B 4 = b4
    revert b0 b1 b2 b3 b4; decide +kernel
section Cn
variable {e : Prop} {p a r : Nat} {c m : jMem}
theorem TR.cd (h : TR e p a r c m) (hp : p ≤ 5) : tCD c a p = rOnes (rDo m r p) := by
  unfold tCD rDo
  rw [← cd_ones (rSt m r) hp]
  exact it_congr (p := p) (fun i s hi => by rw [h.st hi]) p 0 0 (by omega)
theorem TR.ch (h : TR True p a r c m) : tCH c a p = rHa m r p := by
  unfold tCH rHa
  exact it_congr (p := p) (fun i s hi => by rw [h.hur trivial i hi]) p 0 0 (by omega)
theorem TR.cpr (h : TR e p a 0 c m) : tCPr c a = rPt m := by
  unfold tCPr rPt
  refine it_congr (p := 25) (fun i s hi => ?_) 25 0 0 (by omega)
  have h5 := h.pro i hi
  rw [Nat.zero_add] at h5
  rw [h5]
  by_cases z : 0 < m 166 (27 + i)
  · rw [if_pos z, if_pos z]
  · rw [if_neg z, if_neg z, Int32.add_zero]
end Cn
theorem s_count {p x u q n tl : Nat} {c m : jMem} (h : Rel p x u q n tl c m) (w : Int32) : OKc c m (cCount c p w).1 (cCount c p w).2 (rCount m w p).1 (rCount m w p).2 := by
  refine OKc.same h ?_
  have hT := h.2.2.1.1
  have e0 : c 9 0 = m 165 3 := h.1.cp.trans h.1.mp.symm
  have e1 : c 14 7 = m 166 1 := hT.day trivial
  have e2 : tCD c 14 p = rOnes (rDo m 0 p) := hT.cd h.1.p5
  have e3 : c 14 6 = m 166 0 := hT.sto trivial
  have e4 : tCH c 14 p = rHa m 0 p := hT.ch
  have e5 : tCPr c 14 = rPt m := hT.cpr
  have e6 : c 77 3 = m 165 7 := h.2.2.2.2.2.1.1.trans h.2.2.2.2.2.1.2.1.symm
  have e7 : c 26 2 = m 165 1 := h.2.2.2.1.2.2.1.trans h.2.2.2.1.2.2.2.1.symm
  have e8 : c 0 7 = m 165 2 := h.2.2.2.2.1.1.trans h.2.2.2.2.1.2.1.symm
  have e9 : c 1 2 = m 165 12 := h.2.2.2.2.2.2.1.1.trans h.2.2.2.2.2.2.2.1.symm
  unfold cCount rCount
  dsimp only
  rw [e0, e1, e2, e3, e4, e5, e6, e7, e8, e9]
/-! built -/
theorem nI_subN {a b : Nat} (h : b ≤ a) : nI a - nI b = nI (a - b) := by
  have e : nI a = nI (a - b) + nI b := by rw [nI_add]; congr 1; omega
  rw [e, Int32.add_sub_cancel]
theorem nI_mulN (a b : Nat) : nI a * nI b = nI (a * b) := (Int32.ofNat_mul a b).symm
theorem nI_3 {k : Nat} (h : k < 100000) : (nI k / 3).toInt = (k / 3 : Nat) ∧ (nI k / 3) = nI (k / 3) := by
  have e : (nI k / 3).toInt = (k / 3 : Nat) := by
    rw [Int32.toInt_div, nI_toInt (by omega), show (3 : Int32).toInt = 3 by decide]
    have e1 : (k : Int).tdiv 3 = (k / 3 : Nat) := by rw [Int.tdiv_eq_ediv_of_nonneg (by omega)]; rfl
    rw [e1]
    exact Int.bmod_eq_of_le (by omega) (by omega)
  exact ⟨e, Int32.toInt_inj.mp (by rw [e, nI_toInt (by omega)])⟩
/-- counts so far: class and reference -/
def buR (N : Nat) (s t : Int32 × Int32) : Prop := s.1 = t.1 ∧ ∃ k : Nat, k ≤ N ∧ t.1 = nI k ∧ ((k = 0 ∧ s.2 = -4 ∧ t.2 = 1000000) ∨ (k ≠ 0 ∧ s.2 = t.2 ∧ 0 ≤ t.2.toInt ∧ t.2.toInt < 1000000))
theorem bu1 {S h j N : Nat} (hS : S < 1000) (hh : 8 * h + 5 * j ≤ S) (hN : N < 100000) {s t : Int32 × Int32} (hr : buR N s t) : buR (N + 1) (cBuI h (nI S - nI h * 8) j s) (rBuI S h j t) := by
  have e8 : nI S - nI h * 8 = nI (S - 8 * h) := by rw [show (8 : Int32) = nI 8 by decide, nI_mulN, nI_subN (by omega), Nat.mul_comm h 8]
  have e5 : nI (S - 8 * h) - nI j * 5 = nI (S - 8 * h - 5 * j) := by rw [show (5 : Int32) = nI 5 by decide, nI_mulN, nI_subN (by omega), Nat.mul_comm j 5]
  obtain ⟨r1, k, k1, k2, k3⟩ := hr
  unfold cBuI rBuI rBuR
  rw [e8, e5]
  have e3 := nI_3 (k := S - 8 * h - 5 * j) (by omega)
  by_cases z : nI (S - 8 * h - 5 * j) - nI (S - 8 * h - 5 * j) / 3 * 3 = 0
  · rw [if_pos z, if_pos z, nI_add, e3.2, nI_add]
    have hv : (nI (h + j + (S - 8 * h - 5 * j) / 3)).toInt = ((h + j + (S - 8 * h - 5 * j) / 3 : Nat) : Int) := nI_toInt (by omega)
    have hb : h + j + (S - 8 * h - 5 * j) / 3 < 10000 := by omega
    generalize h + j + (S - 8 * h - 5 * j) / 3 = v at hv hb ⊢
    have em : (1000000 : Int32).toInt = 1000000 := by decide
    refine ⟨by rw [r1], k + 1, by omega, by rw [k2, nI_1], Or.inr ⟨by omega, ?_⟩⟩
    rcases k3 with ⟨_, q2, q3⟩ | ⟨_, q2, q3, q4⟩
    · rw [q2, q3, if_pos (Or.inl rfl), if_pos (by rw [i_lt, hv, em]; omega)]
      exact ⟨rfl, by rw [hv]; omega, by rw [hv]; omega⟩
    · have n4 : ¬ s.2 = -4 := fun y => by
        rw [← q2, y] at q3
        revert q3; decide
      rw [q2] at n4 ⊢
      by_cases y : nI v < t.2
      · rw [if_pos (Or.inr y), if_pos y]
        exact ⟨rfl, by rw [hv]; omega, by rw [hv]; omega⟩
      · rw [if_neg (fun w => w.elim n4 y), if_neg y]
        exact ⟨rfl, q3, q4⟩
  · rw [if_neg z, if_neg z]
    exact ⟨r1, k, by omega, k2, k3⟩
theorem s_built {p x u q n tl : Nat} {c m : jMem} (h : Rel p x u q n tl c m) (w : Int32) {S : Nat} (hS : c 14 6 = nI S) (hS2 : S < 1000) : OKc c m (cBuilt c w).1 (cBuilt c w).2 (rBuilt m w S).1 (rBuilt m w S).2 := by
  unfold cBuilt rBuilt
  rw [hS, nI_clamp (by omega), g_in (l := 0) (h := 1) (by decide) (by decide)]
  cases z : xOut w 0 1 with
  | true => rw [b_t, b_nt]; exact OKc.same h rfl
  | false =>
    rw [b_f, b_nf]
    have hb : ∀ i s t, i < S / 8 + 1 → buR (i * 250) s t → buR ((i + 1) * 250) (cBuO S i s) (rBuO S i t) := fun i s t hi hr => by
      have := it_rel (f := cBuI i (nI S - nI i * 8)) (g := rBuI S i) (p := (S - 8 * i) / 5 + 1) (fun j s t => buR (i * 250 + j) s t) (fun j s t hj hr => by
        have hq := bu1 (S := S) (h := i) (j := j) (N := i * 250 + j) hS2 (by omega) (by omega) hr
        rw [Nat.add_assoc] at hq
        exact hq) ((S - 8 * i) / 5 + 1) 0 s t (by omega) (by show buR (i * 250 + 0) s t; rw [Nat.add_zero]; exact hr)
      unfold cBuO rBuO
      rw [show S - i * 8 = S - 8 * i by omega]
      obtain ⟨r1, k, k1, k2⟩ := this
      exact ⟨r1, k, by omega, k2⟩
    obtain ⟨r1, k, k1, k2, k3⟩ := it_rel (f := cBuO S) (g := rBuO S) (p := S / 8 + 1) (fun i s t => buR (i * 250) s t) hb (S / 8 + 1) 0 (0, -4) (0, 1000000) (by omega) ⟨rfl, 0, by omega, by decide, Or.inl ⟨rfl, rfl, rfl⟩⟩
    refine OKc.same h ?_
    generalize it (cBuO S) (S / 8 + 1) 0 (0, -4) = s at r1 k3 ⊢
    generalize it (rBuO S) (S / 8 + 1) 0 (0, 1000000) = t at r1 k2 k3 ⊢
    dsimp only
    by_cases y : w = 0
    · rw [if_pos y, if_pos y, r1]
    · rw [if_neg y, if_neg y]
      rcases k3 with ⟨q1, q2, q3⟩ | ⟨q1, q2, q3, q4⟩
      · subst q1
        rw [k2, if_pos (by decide), q2]
      · rw [k2, if_neg (by rw [show (0 : Int32) = nI 0 by decide, nI_eq (by omega) (by omega)]; exact q1), q2]
