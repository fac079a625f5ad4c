/-! TOWNS AT REST -/
def PI (p : Nat) (c : jMem) : Prop := ∀ k, k < p → 1 ≤ (c 11 k).toInt ∧ (c 11 k).toInt ≤ 60
def TI (p a : Nat) (c : jMem) : Prop := (∀ k, k < p → 0 ≤ q_fe c a k ∧ q_fe c a k ≤ q_mx c k) ∧ (∀ k, k < p → (tSt c a k = true → 1 ≤ q_th c a k ∧ q_th c a k ≤ 99) ∧ (tSt c a k = false → q_th c a k = 0)) ∧
  (∀ i, i < 25 → 0 ≤ (c (a + 5) i).toInt ∧ (c (a + 5) i).toInt ≤ 40) ∧ (∀ k, k < p → 0 ≤ (c (a + 2) k).toInt ∧ (c (a + 2) k).toInt ≤ 7) ∧ q_so p a c
def TT (p a r : Nat) (c m : jMem) : Prop := TR True p a r c m ∧ TI p a c
section TIs
variable {p a a' : Nat} {c c' : jMem}
theorem TI.th (h : TI p a c) {k : Nat} (hk : k < p) : 0 ≤ q_th c a k ∧ q_th c a k ≤ 99 := by
  have h1 := h.2.1 k hk
  cases z : tSt c a k with
  | true => have := h1.1 z; omega
  | false => have := h1.2 z; omega
theorem TI.mi (h : TI p a c) (hP : PI p c) : MI p a c := ⟨h.1, fun k hk => by
  have h1 := h.th hk
  have h2 := q_S5 p a c
  omega, h.2.2.1, hP⟩
theorem q_eqs (hc : ∀ k, k < p → c' (a' + 4) k = c (a + 4) k) (h10 : ∀ k, k < p → c' 10 k = c 10 k) {k : Nat} (hk : k < p) : q_fe c' a' k = q_fe c a k ∧ q_mx c' k = q_mx c k ∧ tSt c' a' k = tSt c a k := by
  refine ⟨?_, ?_, ?_⟩
  · unfold q_fe; rw [hc k hk]
  · unfold q_mx; rw [h10 k hk]
  · unfold tSt; rw [hc k hk, h10 k hk]
theorem q_Feq (hc : ∀ k, k < p → c' (a' + 4) k = c (a + 4) k) : q_F p a' c' = q_F p a c := by
  have h : ∀ k, q_f p a' c' k = q_f p a c k := fun k => by
    unfold q_f q_fe
    by_cases z : k < p
    · rw [if_pos z, if_pos z, hc k z]
    · rw [if_neg z, if_neg z]
  unfold q_F
  rw [h, h, h, h, h]
theorem TI.move (h : TI p a c) (hp : p ≤ 5) (hc : ∀ k j, tfld k j → c' (a' + k) j = c (a + k) j) (h10 : ∀ j, j < 5 → c' 10 j = c 10 j) : TI p a' c' := by
  have h4 : ∀ k, k < p → c' (a' + 4) k = c (a + 4) k := fun k hk => hc 4 k (Or.inl (by omega))
  have hq := fun k hk => q_eqs (p := p) h4 (fun k hk => h10 k (by omega)) (k := k) hk
  have h1 : ∀ k, k < p → q_th c' a' k = q_th c a k := fun k hk => by unfold q_th; rw [hc 1 k (Or.inl (by omega))]
  refine ⟨fun k hk => ?_, fun k hk => ?_, fun i hi => ?_, fun k hk => ?_, ?_⟩
  · rw [(hq k hk).1, (hq k hk).2.1]; exact h.1 k hk
  · rw [(hq k hk).2.2, h1 k hk]; exact h.2.1 k hk
  · rw [hc 5 i (Or.inr (Or.inl ⟨rfl, hi⟩))]; exact h.2.2.1 i hi
  · rw [hc 2 k (Or.inl (by omega))]; exact h.2.2.2.1 k hk
  · have h6 : c' a' 6 = c a 6 := hc 0 6 (Or.inr (Or.inr ⟨rfl, Or.inl rfl⟩))
    unfold q_so
    rw [h6, q_Feq h4]
    exact h.2.2.2.2
end TIs
theorem TT.move {p a a' r r' : Nat} {c c' m m' : jMem} (h : TT p a r c m) (hp : p ≤ 5) (hc : ∀ k j, tfld k j → c' (a' + k) j = c (a + k) j) (h10 : ∀ j, j < 5 → c' 10 j = c 10 j) (hm : ∀ j, j < 52 → m' 166 (r' + j) = m 166 (r + j)) : TT p a' r' c' m' := ⟨h.1.move hp hc h10 hm, h.2.move hp hc h10⟩
theorem tfld_6 {k j : Nat} (h : tfld k j) : k < 6 := by unfold tfld at h; omega
/-! rows copied -/
theorem cp_it {f t y : Nat} (hd : f + 52 ≤ t ∨ t + 52 ≤ f) : ∀ (n i : Nat) (m : jMem), i + n ≤ 52 → it (fun k m => jup m 166 (t + k) (m 166 (f + k))) n i m 166 y = if t + i ≤ y ∧ y < t + i + n then m 166 (f + (y - t)) else m 166 y
  | 0, i, m, h => by rw [it, if_neg (by omega)]
  | n + 1, i, m, h => by
    rw [it, cp_it hd n (i + 1) _ (by omega)]
    by_cases z : t + (i + 1) ≤ y ∧ y < t + (i + 1) + n
    · rw [if_pos z, if_pos (by omega), jup_oth2 (by omega)]
    · rw [if_neg z]
      by_cases q : y = t + i
      · rw [q, jup_self, if_pos (by omega), show t + i - t = i by omega]
      · rw [jup_oth2 q, if_neg (by omega)]
theorem cp_in {m : jMem} {f t j : Nat} (hd : f + 52 ≤ t ∨ t + 52 ≤ f) (hj : j < 52) : rCopy m f t 166 (t + j) = m 166 (f + j) := by
  unfold rCopy
  rw [cp_it hd 52 0 m (by omega), if_pos (by omega), show t + j - t = j by omega]
theorem cp_out {m : jMem} {f t y : Nat} (hd : f + 52 ≤ t ∨ t + 52 ≤ f) (hy : y < t ∨ t + 52 ≤ y) : rCopy m f t 166 y = m 166 y := by
  unfold rCopy
  rw [cp_it hd 52 0 m (by omega), if_neg (by omega)]
theorem tc_out {c : jMem} {a b x y : Nat} (hx : x < a ∨ a + 5 < x) : tCp c a b x y = c x y := by
  unfold tCp rcp
  simp only [jup_at, jrow_at]
  repeat rw [if_neg (by omega)]
theorem tc_in {c : jMem} {a b k j : Nat} (ha : tw a) (hb : tw b) (hab : a ≠ b) (h : tfld k j) : tCp c a b (a + k) j = c (b + k) j := by
  have hap : a + 5 < b ∨ b + 5 < a := by
    have := tw_apart ha hb
    omega
  unfold tCp rcp
  rcases h with ⟨h1, h2, h3⟩ | ⟨h1, h2⟩ | ⟨h1, h2⟩
  · have : k = 1 ∨ k = 2 ∨ k = 3 ∨ k = 4 := by omega
    rcases this with rfl | rfl | rfl | rfl <;> simp only [jup_at, jrow_at] <;> (repeat (first | rw [if_pos trivial] | rw [if_pos (by omega)] | rw [if_neg (by omega)]))
  · subst h1
    simp only [jup_at, jrow_at]
    repeat (first | rw [if_pos trivial] | rw [if_pos (by omega)] | rw [if_neg (by omega)])
  · subst h1
    rcases h2 with rfl | rfl <;> simp only [jup_at, jrow_at, Nat.add_zero, and_true, true_and] <;> (repeat (first | rw [if_pos trivial] | rw [if_pos (by omega)] | rw [if_neg (by omega)]))
theorem TR.copy {e : Prop} {p a b r t : Nat} {c m : jMem} (h : TR e p b r c m) (hp : p ≤ 5) (ha : tw a) (hb : tw b) (hab : a ≠ b) (hd : r + 52 ≤ t ∨ t + 52 ≤ r) : TR e p a t (tCp c a b) (rCopy m r t) :=
  h.move hp (fun _ _ z => tc_in ha hb hab z) (fun j _ => tc_out (by have := tw_ge ha; omega)) (fun _ hj => cp_in hd hj)
theorem TI.copy {p a b : Nat} {c : jMem} (h : TI p b c) (hp : p ≤ 5) (ha : tw a) (hb : tw b) (hab : a ≠ b) : TI p a (tCp c a b) :=
  h.move hp (fun _ _ z => tc_in ha hb hab z) (fun j _ => tc_out (by have := tw_ge ha; omega))
/-! a blast -/
theorem TI.fall {p a w : Nat} {c c' : jMem} (ha : 14 ≤ a) (h : TI p a c) (hQ : FQ p a c c' (fun k => tSt c a k = true ∧ q_th c a k ≤ 0 ∧ k ≠ w)) : TI p a c' := by
  refine ⟨fun k hk => ?_, fun k hk => ⟨fun z => ?_, fun z => ?_⟩, fun i hi => ?_, fun k hk => ?_, hQ.2.2.2.2.2.2.2 h.2.2.2.2⟩
  · have a1 := h.1 k hk
    have a2 := hQ.2.2.1 k hk
    rw [hQ.mx ha]; omega
  · have a1 := hQ.2.2.2.1 k hk
    refine ⟨?_, a1.2⟩
    by_cases q : q_th c' a k ≤ 0
    · have b1 := hQ.2.2.2.2.1 k hk z q
      have b2 := ((h.2.1 k hk).1 b1.1).1
      omega
    · omega
  · rcases hQ.2.2.2.2.2.2.1 k hk z with q | ⟨q1, q2⟩
    · exact q
    · rw [q2]; exact (h.2.1 k hk).2 q1
  · rw [hQ.1 _ _ (by omega)]; exact h.2.2.1 i hi
  · rw [hQ.2.2.2.2.2.1 k hk]
    split
    · exact h.2.2.2.1 k hk
    · rw [i_n0]; omega
theorem TI.w_thi {p a k : Nat} {c : jMem} {v : Int32} (ha : 14 ≤ a) (h : TI p a c) (hv : k < p → (tSt c a k = true → 1 ≤ v.toInt ∧ v.toInt ≤ 99) ∧ (tSt c a k = false → v.toInt = 0)) : TI p a (jup c (a + 1) k v) := by
  have hq := fun j hj => q_eqs (p := p) (a := a) (a' := a) (c := c) (c' := jup c (a + 1) k v) (fun j _ => jup_oth (by omega)) (fun j _ => jup_oth (by omega)) (k := j) hj
  refine ⟨fun j hj => ?_, fun j hj => ?_, fun i hi => ?_, fun j hj => ?_, ?_⟩
  · rw [(hq j hj).1, (hq j hj).2.1]; exact h.1 j hj
  · rw [(hq j hj).2.2]
    unfold q_th
    by_cases z : j = k
    · subst z; rw [jup_self]; exact hv hj
    · rw [jup_oth2 z]; exact h.2.1 j hj
  · rw [jup_oth (by omega)]; exact h.2.2.1 i hi
  · rw [jup_oth (by omega)]; exact h.2.2.2.1 j hj
  · unfold q_so
    rw [jup_oth (by omega), q_Feq (a := a) (c := c) (fun j _ => jup_oth (by omega))]
    exact h.2.2.2.2
theorem TI.w_rou {p a k : Nat} {c : jMem} {v : Int32} (ha : 14 ≤ a) (h : TI p a c) (hv : 0 ≤ v.toInt ∧ v.toInt ≤ 7) : TI p a (jup c (a + 2) k v) := by
  have hq := fun j hj => q_eqs (p := p) (a := a) (a' := a) (c := c) (c' := jup c (a + 2) k v) (fun j _ => jup_oth (by omega)) (fun j _ => jup_oth (by omega)) (k := j) hj
  refine ⟨fun j hj => ?_, fun j hj => ?_, fun i hi => ?_, fun j hj => ?_, ?_⟩
  · rw [(hq j hj).1, (hq j hj).2.1]; exact h.1 j hj
  · rw [(hq j hj).2.2]
    unfold q_th
    rw [jup_oth (by omega)]; exact h.2.1 j hj
  · rw [jup_oth (by omega)]; exact h.2.2.1 i hi
  · by_cases z : j = k
    · subst z; rw [jup_self]; exact hv
    · rw [jup_oth2 z]; exact h.2.2.2.1 j hj
  · unfold q_so
    rw [jup_oth (by omega), q_Feq (a := a) (c := c) (fun j _ => jup_oth (by omega))]
    exact h.2.2.2.2
theorem TI.w_pro {p a k : Nat} {c : jMem} {v : Int32} (ha : 14 ≤ a) (h : TI p a c) (hv : 0 ≤ v.toInt ∧ v.toInt ≤ 40) : TI p a (jup c (a + 5) k v) := by
  have hq := fun j hj => q_eqs (p := p) (a := a) (a' := a) (c := c) (c' := jup c (a + 5) k v) (fun j _ => jup_oth (by omega)) (fun j _ => jup_oth (by omega)) (k := j) hj
  refine ⟨fun j hj => ?_, fun j hj => ?_, fun i hi => ?_, fun j hj => ?_, ?_⟩
  · rw [(hq j hj).1, (hq j hj).2.1]; exact h.1 j hj
  · rw [(hq j hj).2.2]
    unfold q_th
    rw [jup_oth (by omega)]; exact h.2.1 j hj
  · by_cases z : i = k
    · subst z; rw [jup_self]; exact hv
    · rw [jup_oth2 z]; exact h.2.2.1 i hi
  · rw [jup_oth (by omega)]; exact h.2.2.2.1 j hj
  · unfold q_so
    rw [jup_oth (by omega), q_Feq (a := a) (c := c) (fun j _ => jup_oth (by omega))]
    exact h.2.2.2.2
/-- stones, days -/
theorem TI.w_own {p a k : Nat} {c : jMem} {v : Int32} (ha : 14 ≤ a) (h : TI p a c) (hv : k = 6 → 0 ≤ v.toInt ∧ v.toInt ≤ (c a 6).toInt) : TI p a (jup c a k v) := by
  have hq := fun j hj => q_eqs (p := p) (a := a) (a' := a) (c := c) (c' := jup c a k v) (fun j _ => jup_oth (by omega)) (fun j _ => jup_oth (by omega)) (k := j) hj
  refine ⟨fun j hj => ?_, fun j hj => ?_, fun i hi => ?_, fun j hj => ?_, ?_⟩
  · rw [(hq j hj).1, (hq j hj).2.1]; exact h.1 j hj
  · rw [(hq j hj).2.2]
    unfold q_th
    rw [jup_oth (by omega)]; exact h.2.1 j hj
  · rw [jup_oth (by omega)]; exact h.2.2.1 i hi
  · rw [jup_oth (by omega)]; exact h.2.2.2.1 j hj
  · have h5 := h.2.2.2.2
    unfold q_so at h5 ⊢
    rw [q_Feq (a := a) (c := c) (fun j _ => jup_oth (by omega))]
    by_cases z : k = 6
    · subst z
      rw [jup_self]
      have := hv rfl
      omega
    · rw [jup_oth2 (fun q => z q.symm)]; exact h5
