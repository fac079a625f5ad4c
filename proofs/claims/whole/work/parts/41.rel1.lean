/-! CLASS AGAINST REFERENCE: c is the class's memory (ids below 165), m the reference's (165 on) -/
def FR (kd f D F : Int32) : Prop := (kd = 3 ∧ ((f = 0 ∧ D = 0 ∧ F = 0) ∨ (f = 1 ∧ D = 0 ∧ F = 1) ∨ (f = 2 ∧ D = 1 ∧ F = 1))) ∨ (kd ≠ 3 ∧ F = 0 ∧ ((f = 0 ∧ D = 0) ∨ (f = 1 ∧ D = 1)))
/-- the town a and the row r; where e is false, only what the search for orders looks at -/
def TR (e : Prop) (p a r : Nat) (c m : jMem) : Prop := (∀ k, k < p → c (a + 1) k = m 166 (r + 2 + k)) ∧ (∀ k, k < p → c (a + 2) k = m 166 (r + 12 + k)) ∧
  (∀ k, k < p → FR (c 10 k) (c (a + 4) k) (m 166 (r + 7 + k)) (m 166 (r + 22 + k))) ∧ (∀ i, i < 25 → c (a + 5) i = m 166 (r + 27 + i)) ∧
  (e → c a 6 = m 166 (r + 0) ∧ c a 7 = m 166 (r + 1) ∧ ∀ k, k < p → c (a + 3) k = m 166 (r + 17 + k))
/-- the laid plan -/
def PR (p : Nat) (c m : jMem) : Prop := c 9 0 = nI p ∧ m 165 3 = nI p ∧ 1 ≤ p ∧ p ≤ 5 ∧ (∀ k, k < p → c 10 k = m 167 k) ∧ (∀ k, k < p → c 11 k = m 168 k) ∧ ∀ k, k < p → c 12 k = m 169 k
section TRs
variable {e : Prop} {p a r : Nat} {c m : jMem}
theorem TR.thi (h : TR e p a r c m) : ∀ k, k < p → c (a + 1) k = m 166 (r + 2 + k) := h.1
theorem TR.rou (h : TR e p a r c m) : ∀ k, k < p → c (a + 2) k = m 166 (r + 12 + k) := h.2.1
theorem TR.fel (h : TR e p a r c m) : ∀ k, k < p → FR (c 10 k) (c (a + 4) k) (m 166 (r + 7 + k)) (m 166 (r + 22 + k)) := h.2.2.1
theorem TR.pro (h : TR e p a r c m) : ∀ i, i < 25 → c (a + 5) i = m 166 (r + 27 + i) := h.2.2.2.1
theorem TR.sto (h : TR e p a r c m) (he : e) : c a 6 = m 166 (r + 0) := (h.2.2.2.2 he).1
theorem TR.day (h : TR e p a r c m) (he : e) : c a 7 = m 166 (r + 1) := (h.2.2.2.2 he).2.1
theorem TR.hur (h : TR e p a r c m) (he : e) : ∀ k, k < p → c (a + 3) k = m 166 (r + 17 + k) := (h.2.2.2.2 he).2.2
theorem PR.cp (h : PR p c m) : c 9 0 = nI p := h.1
theorem PR.mp (h : PR p c m) : m 165 3 = nI p := h.2.1
theorem PR.p1 (h : PR p c m) : 1 ≤ p := h.2.2.1
theorem PR.p5 (h : PR p c m) : p ≤ 5 := h.2.2.2.1
theorem PR.kin (h : PR p c m) : ∀ k, k < p → c 10 k = m 167 k := h.2.2.2.2.1
theorem PR.lai (h : PR p c m) : ∀ k, k < p → c 11 k = m 168 k := h.2.2.2.2.2.1
theorem PR.lea (h : PR p c m) : ∀ k, k < p → c 12 k = m 169 k := h.2.2.2.2.2.2
end TRs
theorem FR.st {kd f D F : Int32} (h : FR kd f D F) : decide (f < if kd = 3 then 2 else 1) = decide (D = 0) := by
  rcases h with ⟨h1, h | h | h⟩ | ⟨h1, -, h | h⟩
  · obtain ⟨h2, h3, -⟩ := h; subst h1 h2 h3; decide
  · obtain ⟨h2, h3, -⟩ := h; subst h1 h2 h3; decide
  · obtain ⟨h2, h3, -⟩ := h; subst h1 h2 h3; decide
  · obtain ⟨h2, h3⟩ := h; subst h2 h3; rw [if_neg h1]; decide
  · obtain ⟨h2, h3⟩ := h; subst h2 h3; rw [if_neg h1]; decide
/-- the numbers that a town is made of: array k at j, or its own stones and days -/
def tfld (k j : Nat) : Prop := (1 ≤ k ∧ k ≤ 4 ∧ j < 5) ∨ (k = 5 ∧ j < 25) ∨ (k = 0 ∧ (j = 6 ∨ j = 7))
section TR2
variable {e : Prop} {p a r k : Nat} {c m : jMem}
theorem TR.st (h : TR e p a r c m) (hk : k < p) : tSt c a k = rSt m r k := (h.fel k hk).st
theorem TR.wf (h : TR e p a r c m) (hk : k < p) (n : Int32) : tWF c a k n = rWF m r k n := by
  unfold tWF rWF
  rw [h.thi k hk, h.rou k hk]
theorem TR.few (h : TR e p a r c m) (hk : k < p) : ∀ n i, tFewL c a k n i = rCiL m r k n i
  | 0, i => rfl
  | n + 1, i => by rw [tFewL, rCiL, h.wf hk, h.few hk n (i + 1)]
theorem TR.calls (h : TR e p a r c m) (hk : k < p) : tFew c a k = rCi m r k := h.few hk 9 1
theorem TR.lean (h : TR e p a r c m) (hP : PR p c m) (hk : k < p) : tLI c a k = decide (m 169 k ≤ m 166 (r + 12 + k)) := by
  unfold tLI
  rw [hP.lea k hk, h.rou k hk]
theorem TR.held (h : TR e p a r c m) {x y : Nat} (hx : x < 5) (hy : y < 5) : tHeld c a x y = m 166 (r + 27 + 5 * x + y) := by
  unfold tHeld
  rw [h.pro (x * 5 + y) (by omega), show r + 27 + (x * 5 + y) = r + 27 + 5 * x + y by omega]
/-- fewer are asked for -/
theorem TR.weak (h : TR e p a r c m) : TR False p a r c m := ⟨h.thi, h.rou, h.fel, h.pro, fun z => z.elim⟩
/-- other memories that say the same -/
theorem TR.move {a' r' : Nat} {c' m' : jMem} (h : TR e p a r c m) (hp : p ≤ 5) (hc : ∀ k j, tfld k j → c' (a' + k) j = c (a + k) j) (h10 : ∀ j, j < 5 → c' 10 j = c 10 j) (hm : ∀ j, j < 52 → m' 166 (r' + j) = m 166 (r + j)) : TR e p a' r' c' m' := by
  have hm' : ∀ i j, i + j < 52 → m' 166 (r' + i + j) = m 166 (r + i + j) := fun i j z => by rw [Nat.add_assoc, Nat.add_assoc]; exact hm _ z
  refine ⟨fun k hk => ?_, fun k hk => ?_, fun k hk => ?_, fun i hi => ?_, fun he => ⟨?_, ?_, fun k hk => ?_⟩⟩
  · rw [hc 1 k (Or.inl (by omega)), hm' 2 k (by omega)]; exact h.thi k hk
  · rw [hc 2 k (Or.inl (by omega)), hm' 12 k (by omega)]; exact h.rou k hk
  · rw [hc 4 k (Or.inl (by omega)), hm' 7 k (by omega), hm' 22 k (by omega), h10 k (by omega)]; exact h.fel k hk
  · rw [hc 5 i (Or.inr (Or.inl ⟨rfl, hi⟩)), hm' 27 i (by omega)]; exact h.pro i hi
  · rw [hm 0 (by omega)]; exact (hc 0 6 (Or.inr (Or.inr ⟨rfl, Or.inl rfl⟩))).trans (h.sto he)
  · rw [hm 1 (by omega)]; exact (hc 0 7 (Or.inr (Or.inr ⟨rfl, Or.inr rfl⟩))).trans (h.day he)
  · rw [hc 3 k (Or.inl (by omega)), hm' 17 k (by omega)]; exact h.hur he k hk
end TR2
/-! numbers -/
theorem i_add {x y : Int32} (h1 : -2147483648 ≤ x.toInt + y.toInt) (h2 : x.toInt + y.toInt ≤ 2147483647) : (x + y).toInt = x.toInt + y.toInt := by
  rw [Int32.toInt_add]
  exact Int.bmod_eq_of_le (by omega) (by omega)
theorem i_sub {x y : Int32} (h1 : -2147483648 ≤ x.toInt - y.toInt) (h2 : x.toInt - y.toInt ≤ 2147483647) : (x - y).toInt = x.toInt - y.toInt := by
  rw [Int32.toInt_sub]
  exact Int.bmod_eq_of_le (by omega) (by omega)
theorem i_n0 : (0 : Int32).toInt = 0 := by decide
theorem i_n1 : (1 : Int32).toInt = 1 := by decide
theorem i_n2 : (2 : Int32).toInt = 2 := by decide
theorem i_lt {x y : Int32} : x < y ↔ x.toInt < y.toInt := Int32.lt_iff_toInt_lt
theorem i_le {x y : Int32} : x ≤ y ↔ x.toInt ≤ y.toInt := Int32.le_iff_toInt_le
theorem i_nat {x : Int32} (h : 0 ≤ x.toInt) : ∃ n : Nat, x = nI n ∧ x.toInt = n := by
  obtain ⟨n, h1, h2⟩ := nI_of (x := x) (by rw [i_lt, i_n0]; omega)
  exact ⟨n, h2, by rw [h2, nI_toInt h1]⟩
/-! what the class's own towns keep to -/
def q_fe (c : jMem) (a k : Nat) : Int := (c (a + 4) k).toInt
def q_th (c : jMem) (a k : Nat) : Int := (c (a + 1) k).toInt
def q_mx (c : jMem) (k : Nat) : Int := if c 10 k = 3 then 2 else 1
theorem q_st {c : jMem} {a k : Nat} : tSt c a k = true ↔ q_fe c a k < q_mx c k := by
  unfold tSt q_fe q_mx
  rw [decide_eq_true_iff, i_lt]
  by_cases h : c 10 k = 3
  · rw [if_pos h, if_pos h, i_n2]
  · rw [if_neg h, if_neg h, i_n1]
theorem q_sf {c : jMem} {a k : Nat} : tSt c a k = false ↔ q_mx c k ≤ q_fe c a k := by
  rw [← Bool.not_eq_true, q_st]; omega
theorem q_mx2 (c : jMem) (k : Nat) : 1 ≤ q_mx c k ∧ q_mx c k ≤ 2 := by unfold q_mx; split <;> omega
def q_b (p a : Nat) (c : jMem) (k : Nat) : Nat := if k < p ∧ tSt c a k = true then 1 else 0
/-- how many stand -/
def q_S (p a : Nat) (c : jMem) : Nat := q_b p a c 0 + q_b p a c 1 + q_b p a c 2 + q_b p a c 3 + q_b p a c 4
theorem q_b1 (p a : Nat) (c : jMem) (k : Nat) : q_b p a c k ≤ 1 := by unfold q_b; split <;> omega
theorem q_S5 (p a : Nat) (c : jMem) : q_S p a c ≤ 5 := by
  have h0 := q_b1 p a c 0
  have h1 := q_b1 p a c 1
  have h2 := q_b1 p a c 2
  have h3 := q_b1 p a c 3
  have h4 := q_b1 p a c 4
  unfold q_S; omega
section QS
variable {p a a' k : Nat} {c c' : jMem}
theorem q_b_le (h : k < p → tSt c' a' k = true → tSt c a k = true) : q_b p a' c' k ≤ q_b p a c k := by
  unfold q_b
  by_cases z : k < p ∧ tSt c' a' k = true
  · rw [if_pos z, if_pos ⟨z.1, h z.1 z.2⟩]; exact Nat.le_refl _
  · rw [if_neg z]; exact Nat.zero_le _
theorem q_S_le (h : ∀ k, k < p → tSt c' a' k = true → tSt c a k = true) : q_S p a' c' ≤ q_S p a c := by
  have h0 := q_b_le (k := 0) (h 0)
  have h1 := q_b_le (k := 1) (h 1)
  have h2 := q_b_le (k := 2) (h 2)
  have h3 := q_b_le (k := 3) (h 3)
  have h4 := q_b_le (k := 4) (h 4)
  unfold q_S; omega
theorem q_S_lt (hp : p ≤ 5) (h : ∀ k, k < p → tSt c' a' k = true → tSt c a k = true) {w : Nat} (hw : w < p) (g1 : tSt c a w = true) (g2 : tSt c' a' w = false) : q_S p a' c' + 1 ≤ q_S p a c := by
  have e1 : q_b p a c w = 1 := if_pos ⟨hw, g1⟩
  have e2 : q_b p a' c' w = 0 := if_neg (fun z => by rw [g2] at z; exact absurd z.2 (by decide))
  have h0 := q_b_le (k := 0) (h 0)
  have h1 := q_b_le (k := 1) (h 1)
  have h2 := q_b_le (k := 2) (h 2)
  have h3 := q_b_le (k := 3) (h 3)
  have h4 := q_b_le (k := 4) (h 4)
  have w5 : w = 0 ∨ w = 1 ∨ w = 2 ∨ w = 3 ∨ w = 4 := by omega
  unfold q_S
  rcases w5 with rfl | rfl | rfl | rfl | rfl <;> omega
theorem q_S_pos (hp : p ≤ 5) {w : Nat} (hw : w < p) (g1 : tSt c a w = true) : 1 ≤ q_S p a c := by
  have e1 : q_b p a c w = 1 := if_pos ⟨hw, g1⟩
  have w5 : w = 0 ∨ w = 1 ∨ w = 2 ∨ w = 3 ∨ w = 4 := by omega
  unfold q_S
  rcases w5 with rfl | rfl | rfl | rfl | rfl <;> omega
end QS
def q_f (p a : Nat) (c : jMem) (k : Nat) : Int := if k < p then q_fe c a k else 0
/-- how often all fell -/
def q_F (p a : Nat) (c : jMem) : Int := q_f p a c 0 + q_f p a c 1 + q_f p a c 2 + q_f p a c 3 + q_f p a c 4
section QF
variable {p a a' k : Nat} {c c' : jMem}
theorem q_f_le (h : k < p → q_fe c a k ≤ q_fe c' a' k) : q_f p a c k ≤ q_f p a' c' k := by
  unfold q_f
  by_cases z : k < p
  · rw [if_pos z, if_pos z]; exact h z
  · rw [if_neg z, if_neg z]; exact Int.le_refl _
theorem q_F_le (h : ∀ k, k < p → q_fe c a k ≤ q_fe c' a' k) : q_F p a c ≤ q_F p a' c' := by
  have h0 := q_f_le (k := 0) (h 0)
  have h1 := q_f_le (k := 1) (h 1)
  have h2 := q_f_le (k := 2) (h 2)
  have h3 := q_f_le (k := 3) (h 3)
  have h4 := q_f_le (k := 4) (h 4)
  unfold q_F; omega
theorem q_F_lt (hp : p ≤ 5) (h : ∀ k, k < p → q_fe c a k ≤ q_fe c' a' k) {w : Nat} (hw : w < p) (g1 : q_fe c a w + 1 ≤ q_fe c' a' w) : q_F p a c + 1 ≤ q_F p a' c' := by
  have e1 : q_f p a c w = q_fe c a w := if_pos hw
  have e2 : q_f p a' c' w = q_fe c' a' w := if_pos hw
  have h0 := q_f_le (k := 0) (h 0)
  have h1 := q_f_le (k := 1) (h 1)
  have h2 := q_f_le (k := 2) (h 2)
  have h3 := q_f_le (k := 3) (h 3)
  have h4 := q_f_le (k := 4) (h 4)
  have w5 : w = 0 ∨ w = 1 ∨ w = 2 ∨ w = 3 ∨ w = 4 := by omega
  unfold q_F
  rcases w5 with rfl | rfl | rfl | rfl | rfl <;> omega
theorem q_f2 (h : k < p → 0 ≤ q_fe c a k ∧ q_fe c a k ≤ q_mx c k) : 0 ≤ q_f p a c k ∧ q_f p a c k ≤ 2 := by
  unfold q_f
  by_cases z : k < p
  · rw [if_pos z]
    have := h z
    have := q_mx2 c k
    omega
  · rw [if_neg z]; omega
theorem q_F10 (h : ∀ k, k < p → 0 ≤ q_fe c a k ∧ q_fe c a k ≤ q_mx c k) : 0 ≤ q_F p a c ∧ q_F p a c ≤ 10 := by
  have h0 := q_f2 (k := 0) (h 0)
  have h1 := q_f2 (k := 1) (h 1)
  have h2 := q_f2 (k := 2) (h 2)
  have h3 := q_f2 (k := 3) (h 3)
  have h4 := q_f2 (k := 4) (h 4)
  unfold q_F; omega
end QF
