theorem jup_comm {α : Type} (f : Nat → Nat → α) {a i b j : Nat} (v w : α) (h : a ≠ b ∨ i ≠ j) : jup (jup f a i v) b j w = jup (jup f b j w) a i v := by
  funext x y
  by_cases h1 : x = b ∧ y = j
  · obtain ⟨rfl, rfl⟩ := h1
    rw [jup_self]
    rcases h with z | z
    · rw [jup_oth (Ne.symm z), jup_self]
    · by_cases e : x = a
      · subst e; rw [jup_oth2 (Ne.symm z), jup_self]
      · rw [jup_oth e, jup_self]
  · have e1 : ∀ g : Nat → Nat → α, jup g b j w x y = g x y := fun g => by
      by_cases e : x = b
      · subst e; exact jup_oth2 (fun z => h1 ⟨rfl, z⟩)
      · exact jup_oth e
    rw [e1]
    by_cases h2 : x = a ∧ y = i
    · obtain ⟨rfl, rfl⟩ := h2; rw [jup_self, jup_self]
    · have e2 : ∀ g : Nat → Nat → α, jup g a i v x y = g x y := fun g => by
        by_cases e : x = a
        · subst e; exact jup_oth2 (fun z => h2 ⟨rfl, z⟩)
        · exact jup_oth e
      rw [e2, e2, e1]
theorem jup_same {α : Type} (f : Nat → Nat → α) {a i : Nat} {v : α} (h : f a i = v) : jup f a i v = f := by
  funext x y
  by_cases e : x = a
  · subst e
    by_cases e2 : y = i
    · subst e2; rw [jup_self, h]
    · exact jup_oth2 e2
  · exact jup_oth e
theorem PR.keep {p : Nat} {c c' m m' : jMem} (h : PR p c m) (hc : ∀ x y, x < 14 → c' x y = c x y) (hm : ∀ x y, x ≠ 166 → x < 176 → m' x y = m x y) : PR p c' m' :=
  ⟨(hc _ _ (by decide)).trans h.cp, (hm _ _ (by decide) (by decide)).trans h.mp, h.p1, h.p5, fun k hk => by rw [hc _ _ (by decide), hm _ _ (by decide) (by decide)]; exact h.kin k hk, fun k hk => by rw [hc _ _ (by decide), hm _ _ (by decide) (by decide)]; exact h.lai k hk, fun k hk => by rw [hc _ _ (by decide), hm _ _ (by decide) (by decide)]; exact h.lea k hk⟩
theorem TR.day' {p a r : Nat} {c m : jMem} (h : TR p a r c m) (hP : PR p c m) (ha : 14 ≤ a) {k : Nat} (hk : k < p) (ht : m 166 (r + 2 + k) ≤ 99) : TR p a r (tDayL a k c) (rPsF r k m) := by
  have hp := hP.p5
  unfold tDayL rPsF
  rw [hP.kin k hk, h.st hk]
  by_cases z : m 167 k = 1 ∧ rSt m r k = true
  · rw [if_pos z]
    by_cases q : m 166 (r + 2 + k) < 99
    · rw [h.thi k hk]
      have : ¬ 99 < m 166 (r + 2 + k) + 1 := by
        rw [Int32.lt_iff_toInt_lt] at q ⊢
        rw [Int32.toInt_add]
        have e1 : (99 : Int32).toInt = 99 := by decide
        have e2 : (1 : Int32).toInt = 1 := by decide
        rw [e1] at q ⊢
        rw [e2]
        have := Int32.le_toInt (m 166 (r + 2 + k))
        rw [Int.bmod_eq_of_le (by omega) (by omega)]
        omega
      rw [if_neg this, if_pos ⟨z.1, z.2, q⟩]
      exact h.w_thi ha hp (by omega) _
    · have e : m 166 (r + 2 + k) = 99 := Int32.le_antisymm ht (Int32.not_lt.mp q)
      rw [h.thi k hk, e, if_pos (by decide), if_neg (fun w => absurd w.2.2 (by decide))]
      exact h.w_thi ha hp (by omega) _
  · rw [if_neg z, if_neg (fun w => z ⟨w.1, w.2.1⟩)]
    have e : jup m 166 (r + 2 + k) (m 166 (r + 2 + k) + 0) = m := jup_same m (Int32.add_zero _).symm
    rw [e]
    exact h
