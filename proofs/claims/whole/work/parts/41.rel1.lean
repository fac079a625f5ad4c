/-! CLASS AGAINST REFERENCE: c is the class's memory (ids below 165), m the reference's (165 on) -/
def FR (kd f D F : Int32) : Prop := (kd = 3 ∧ ((f = 0 ∧ D = 0 ∧ F = 0) ∨ (f = 1 ∧ D = 0 ∧ F = 1) ∨ (f = 2 ∧ D = 1 ∧ F = 1))) ∨ (kd ≠ 3 ∧ F = 0 ∧ ((f = 0 ∧ D = 0) ∨ (f = 1 ∧ D = 1)))
/-- the town a and the row r -/
structure TR (p a r : Nat) (c m : jMem) : Prop where
  sto : c a 6 = m 166 (r + 0)
  day : c a 7 = m 166 (r + 1)
  thi : ∀ k, k < p → c (a + 1) k = m 166 (r + 2 + k)
  rou : ∀ k, k < p → c (a + 2) k = m 166 (r + 12 + k)
  hur : ∀ k, k < p → c (a + 3) k = m 166 (r + 17 + k)
  fel : ∀ k, k < p → FR (c 10 k) (c (a + 4) k) (m 166 (r + 7 + k)) (m 166 (r + 22 + k))
  pro : ∀ i, i < 25 → c (a + 5) i = m 166 (r + 27 + i)
/-- the laid plan -/
structure PR (p : Nat) (c m : jMem) : Prop where
  cp : c 9 0 = nI p
  mp : m 165 3 = nI p
  p1 : 1 ≤ p
  p5 : p ≤ 5
  kin : ∀ k, k < p → c 10 k = m 167 k
  lai : ∀ k, k < p → c 11 k = m 168 k
  lea : ∀ k, k < p → c 12 k = m 169 k
theorem FR.st {kd f D F : Int32} (h : FR kd f D F) : decide (f < if kd = 3 then 2 else 1) = decide (D = 0) := by
  rcases h with ⟨h1, h | h | h⟩ | ⟨h1, -, h | h⟩
  · obtain ⟨h2, h3, -⟩ := h; subst h1 h2 h3; decide
  · obtain ⟨h2, h3, -⟩ := h; subst h1 h2 h3; decide
  · obtain ⟨h2, h3, -⟩ := h; subst h1 h2 h3; decide
  · obtain ⟨h2, h3⟩ := h; subst h2 h3; rw [if_neg h1]; decide
  · obtain ⟨h2, h3⟩ := h; subst h2 h3; rw [if_neg h1]; decide
theorem TR.st {p a r k : Nat} {c m : jMem} (h : TR p a r c m) (hk : k < p) : tSt c a k = rSt m r k := (h.fel k hk).st
theorem TR.wf {p a r k : Nat} {c m : jMem} (h : TR p a r c m) (hk : k < p) (n : Int32) : tWF c a k n = rWF m r k n := by
  unfold tWF rWF
  rw [h.thi k hk, h.rou k hk]
theorem TR.few {p a r k : Nat} {c m : jMem} (h : TR p a r c m) (hk : k < p) : ∀ n i, tFewL c a k n i = rCiL m r k n i
  | 0, i => rfl
  | n + 1, i => by rw [tFewL, rCiL, h.wf hk, h.few hk n (i + 1)]
theorem TR.calls {p a r k : Nat} {c m : jMem} (h : TR p a r c m) (hk : k < p) : tFew c a k = rCi m r k := h.few hk 9 1
theorem TR.lean {p a r k : Nat} {c m : jMem} (h : TR p a r c m) (hP : PR p c m) (hk : k < p) : tLI c a k = decide (m 169 k ≤ m 166 (r + 12 + k)) := by
  unfold tLI
  rw [hP.lea k hk, h.rou k hk]
