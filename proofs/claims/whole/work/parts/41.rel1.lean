/-! CLASS AGAINST REFERENCE: c is the class's memory (ids below 165), m the reference's (165 on) -/
def FR (kd f D F : Int32) : Prop := (kd = 3 ∧ ((f = 0 ∧ D = 0 ∧ F = 0) ∨ (f = 1 ∧ D = 0 ∧ F = 1) ∨ (f = 2 ∧ D = 1 ∧ F = 1))) ∨ (kd ≠ 3 ∧ F = 0 ∧ ((f = 0 ∧ D = 0) ∨ (f = 1 ∧ D = 1)))
/-- the town a and the row r -/
def TR (p a r : Nat) (c m : jMem) : Prop := c a 6 = m 166 (r + 0) ∧ c a 7 = m 166 (r + 1) ∧ (∀ k, k < p → c (a + 1) k = m 166 (r + 2 + k)) ∧ (∀ k, k < p → c (a + 2) k = m 166 (r + 12 + k)) ∧ (∀ k, k < p → c (a + 3) k = m 166 (r + 17 + k)) ∧
  (∀ k, k < p → FR (c 10 k) (c (a + 4) k) (m 166 (r + 7 + k)) (m 166 (r + 22 + k))) ∧ ∀ i, i < 25 → c (a + 5) i = m 166 (r + 27 + i)
/-- the laid plan -/
def PR (p : Nat) (c m : jMem) : Prop := c 9 0 = nI p ∧ m 165 3 = nI p ∧ 1 ≤ p ∧ p ≤ 5 ∧ (∀ k, k < p → c 10 k = m 167 k) ∧ (∀ k, k < p → c 11 k = m 168 k) ∧ ∀ k, k < p → c 12 k = m 169 k
section TRs
variable {p a r : Nat} {c m : jMem}
theorem TR.sto (h : TR p a r c m) : c a 6 = m 166 (r + 0) := h.1
theorem TR.day (h : TR p a r c m) : c a 7 = m 166 (r + 1) := h.2.1
theorem TR.thi (h : TR p a r c m) : ∀ k, k < p → c (a + 1) k = m 166 (r + 2 + k) := h.2.2.1
theorem TR.rou (h : TR p a r c m) : ∀ k, k < p → c (a + 2) k = m 166 (r + 12 + k) := h.2.2.2.1
theorem TR.hur (h : TR p a r c m) : ∀ k, k < p → c (a + 3) k = m 166 (r + 17 + k) := h.2.2.2.2.1
theorem TR.fel (h : TR p a r c m) : ∀ k, k < p → FR (c 10 k) (c (a + 4) k) (m 166 (r + 7 + k)) (m 166 (r + 22 + k)) := h.2.2.2.2.2.1
theorem TR.pro (h : TR p a r c m) : ∀ i, i < 25 → c (a + 5) i = m 166 (r + 27 + i) := h.2.2.2.2.2.2
theorem PR.cp (h : PR p c m) : c 9 0 = nI p := h.1
theorem PR.mp (h : PR p c m) : m 165 3 = nI p := h.2.1
theorem PR.p1 (h : PR p c m) : 1 ≤ p := h.2.2.1
theorem PR.p5 (h : PR p c m) : p ≤ 5 := h.2.2.2.1
theorem PR.kin (h : PR p c m) : ∀ k, k < p → c 10 k = m 167 k := h.2.2.2.2.1
theorem PR.lai (h : PR p c m) : ∀ k, k < p → c 11 k = m 168 k := h.2.2.2.2.2.1
theorem PR.lea (h : PR p c m) : ∀ k, k < p → c 12 k = m 169 k := h.2.2.2.2.2.2
end TRs
theorem FR.st {kd f D F : Int32} (h : FR kd f D F) : decide (f < if kd = 3 then 2 else 1) = decide (D = 0) := by
  rcases h with ⟨h1, h | h | h⟩ | ⟨h1, -, h | h⟩
  · obtain ⟨h2, h3, -⟩ := h; subst h1 h2 h3; decide
  · obtain ⟨h2, h3, -⟩ := h; subst h1 h2 h3; decide
  · obtain ⟨h2, h3, -⟩ := h; subst h1 h2 h3; decide
  · obtain ⟨h2, h3⟩ := h; subst h2 h3; rw [if_neg h1]; decide
  · obtain ⟨h2, h3⟩ := h; subst h2 h3; rw [if_neg h1]; decide
theorem TR.st {p a r k : Nat} {c m : jMem} (h : TR p a r c m) (hk : k < p) : tSt c a k = rSt m r k := (h.fel k hk).st
theorem TR.wf {p a r k : Nat} {c m : jMem} (h : TR p a r c m) (hk : k < p) (n : Int32) : tWF c a k n = rWF m r k n := by
  unfold tWF rWF
  rw [h.thi k hk, h.rou k hk]
theorem TR.few {p a r k : Nat} {c m : jMem} (h : TR p a r c m) (hk : k < p) : ∀ n i, tFewL c a k n i = rCiL m r k n i
  | 0, i => rfl
  | n + 1, i => by rw [tFewL, rCiL, h.wf hk, h.few hk n (i + 1)]
theorem TR.calls {p a r k : Nat} {c m : jMem} (h : TR p a r c m) (hk : k < p) : tFew c a k = rCi m r k := h.few hk 9 1
theorem TR.lean {p a r k : Nat} {c m : jMem} (h : TR p a r c m) (hP : PR p c m) (hk : k < p) : tLI c a k = decide (m 169 k ≤ m 166 (r + 12 + k)) := by
  unfold tLI
  rw [hP.lea k hk, h.rou k hk]
