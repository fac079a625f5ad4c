/-! THE WHOLE RELATION -/
def RPast (p x u : Nat) (c m : jMem) : Prop := c 26 1 = nI x ∧ x < 8 ∧ c 26 2 = nI u ∧ m 165 1 = nI u ∧ u ≤ 8 ∧ ∀ i, i < u → TT p (28 + 6 * ((x + 8 - u + i) % 8)) (208 + 52 * i) c m
def RKept (p q : Nat) (c m : jMem) : Prop := c 0 7 = nI q ∧ m 165 2 = nI q ∧ q ≤ 2 ∧ ∀ i, i < q → TT p (153 + 6 * i) (104 + 52 * i) c m
def RNote (n : Nat) (c m : jMem) : Prop := c 77 3 = nI n ∧ m 165 7 = nI n ∧ n ≤ 6 ∧ ∀ i, i < n → c 78 i = m 170 i ∧ c 79 i = m 171 i ∧ c 80 i = m 172 i ∧ (m 172 i = 0 ∨ m 172 i = 1)
def RText (tl : Nat) (c m : jMem) : Prop := xOK c tl ∧ m 165 12 = nI tl ∧ ∀ k, k < tl → c 2 k = m 173 k
def Rel (p x u q n tl : Nat) (c m : jMem) : Prop := PR p c m ∧ PI p c ∧ TT p 14 0 c m ∧ RPast p x u c m ∧ RKept p q c m ∧ RNote n c m ∧ RText tl c m
section Ks
variable {p x u q n tl a r : Nat} {c c' m m' : jMem}
theorem TT.keep (h : TT p a r c m) (hp : p ≤ 5) (hc : ∀ x y, x = 10 ∨ (a ≤ x ∧ x ≤ a + 5) → c' x y = c x y) (hm : ∀ y, r ≤ y → y < r + 52 → m' 166 y = m 166 y) : TT p a r c' m' :=
  h.move hp (fun k j z => hc _ _ (by have := tfld_6 z; omega)) (fun j _ => hc _ _ (Or.inl rfl)) (fun j hj => hm _ (by omega) (by omega))
theorem RPast.keep (h : RPast p x u c m) (hp : p ≤ 5) (hc : ∀ x y, x = 10 ∨ x = 26 ∨ (28 ≤ x ∧ x < 76) → c' x y = c x y) (h1 : m' 165 1 = m 165 1) (hm : ∀ y, 208 ≤ y → y < 624 → m' 166 y = m 166 y) : RPast p x u c' m' :=
  ⟨(hc _ _ (by omega)).trans h.1, h.2.1, (hc _ _ (by omega)).trans h.2.2.1, h1.trans h.2.2.2.1, h.2.2.2.2.1, fun i hi => (h.2.2.2.2.2 i hi).keep hp (fun x y hx => hc x y (by omega)) (fun y h1 h2 => hm y (by omega) (by have := h.2.2.2.2.1; omega))⟩
theorem RKept.keep (h : RKept p q c m) (hp : p ≤ 5) (hc : ∀ x y, x = 0 ∨ x = 10 ∨ (153 ≤ x ∧ x < 165) → c' x y = c x y) (h1 : m' 165 2 = m 165 2) (hm : ∀ y, 104 ≤ y → y < 208 → m' 166 y = m 166 y) : RKept p q c' m' :=
  ⟨(hc _ _ (by omega)).trans h.1, h1.trans h.2.1, h.2.2.1, fun i hi => (h.2.2.2 i hi).keep hp (fun x y hx => hc x y (by have := h.2.2.1; omega)) (fun y h1 h2 => hm y (by omega) (by have := h.2.2.1; omega))⟩
theorem RNote.keep (h : RNote n c m) (hc : ∀ x y, 77 ≤ x ∧ x ≤ 80 → c' x y = c x y) (h1 : m' 165 7 = m 165 7) (hm : ∀ x y, 170 ≤ x ∧ x ≤ 172 → m' x y = m x y) : RNote n c' m' :=
  ⟨(hc _ _ (by omega)).trans h.1, h1.trans h.2.1, h.2.2.1, fun i hi => by
    rw [hc 78 i (by omega), hc 79 i (by omega), hc 80 i (by omega), hm 170 i (by omega), hm 171 i (by omega), hm 172 i (by omega)]
    exact h.2.2.2 i hi⟩
theorem RText.keep (h : RText tl c m) (hc : ∀ x y, x = 1 ∨ x = 2 → c' x y = c x y) (h1 : m' 165 12 = m 165 12) (hm : ∀ y, m' 173 y = m 173 y) : RText tl c' m' := by
  obtain ⟨⟨h2, h3, h4⟩, h5, h6⟩ := h
  refine ⟨⟨(hc _ _ (by omega)).trans h2, h3, fun k => ?_⟩, h1.trans h5, fun k hk => ?_⟩
  · rw [hc 2 k (by omega)]; exact h4 k
  · rw [hc 2 k (by omega), hm k]; exact h6 k hk
/-- what the relation looks at -/
def RC (x : Nat) : Prop := x < 3 ∨ (9 ≤ x ∧ x < 20) ∨ (26 ≤ x ∧ x < 81) ∨ 153 ≤ x
def RM (x y : Nat) : Prop := (x = 165 ∧ (y = 1 ∨ y = 2 ∨ y = 3 ∨ y = 7 ∨ y = 12)) ∨ (x = 166 ∧ (y < 52 ∨ (104 ≤ y ∧ y < 624))) ∨ (167 ≤ x ∧ x ≤ 173)
theorem PI.keep (h : PI p c) (hc : ∀ y, c' 11 y = c 11 y) : PI p c' := fun k hk => by rw [hc]; exact h k hk
theorem PR.keep2 (h : PR p c m) (hc : ∀ x y, 9 ≤ x ∧ x < 13 → c' x y = c x y) (hm : ∀ x y, x = 165 ∧ y = 3 ∨ (167 ≤ x ∧ x ≤ 169) → m' x y = m x y) : PR p c' m' :=
  ⟨(hc _ _ (by omega)).trans h.cp, (hm _ _ (by omega)).trans h.mp, h.p1, h.p5, fun k hk => by rw [hc 10 k (by omega), hm 167 k (by omega)]; exact h.kin k hk, fun k hk => by rw [hc 11 k (by omega), hm 168 k (by omega)]; exact h.lai k hk, fun k hk => by rw [hc 12 k (by omega), hm 169 k (by omega)]; exact h.lea k hk⟩
theorem Rel.keep (h : Rel p x u q n tl c m) (hc : ∀ x y, RC x → c' x y = c x y) (hm : ∀ x y, RM x y → m' x y = m x y) : Rel p x u q n tl c' m' := by
  obtain ⟨h1, h2, h3, h4, h5, h6, h7⟩ := h
  have hp := h1.p5
  unfold RC at hc
  unfold RM at hm
  exact ⟨h1.keep2 (fun x y hx => hc x y (by omega)) (fun x y hx => hm x y (by omega)), h2.keep (fun y => hc _ _ (by omega)), h3.keep hp (fun x y hx => hc x y (by omega)) (fun y _ _ => hm _ _ (by omega)),
    h4.keep hp (fun x y hx => hc x y (by omega)) (hm _ _ (by omega)) (fun y _ _ => hm _ _ (by omega)), h5.keep hp (fun x y hx => hc x y (by omega)) (hm _ _ (by omega)) (fun y _ _ => hm _ _ (by omega)),
    h6.keep (fun x y hx => hc x y (by omega)) (hm _ _ (by omega)) (fun x y hx => hm _ _ (by omega)), h7.keep (fun x y hx => hc x y (by omega)) (hm _ _ (by omega)) (fun y => hm _ _ (by omega))⟩
/-- the town that stands now is another one -/
theorem Rel.now (h : Rel p x u q n tl c m) (hT : TT p 14 0 c' m') (hc : ∀ x y, RC x → (x < 14 ∨ 18 < x + 0 ∧ 20 ≤ x) → c' x y = c x y) (hm : ∀ x y, RM x y → (x = 166 → 52 ≤ y) → m' x y = m x y) : Rel p x u q n tl c' m' := by
  obtain ⟨h1, h2, h3, h4, h5, h6, h7⟩ := h
  have hp := h1.p5
  unfold RC at hc
  unfold RM at hm
  exact ⟨h1.keep2 (fun x y hx => hc x y (by omega) (by omega)) (fun x y hx => hm x y (by omega) (by omega)), h2.keep (fun y => hc _ _ (by omega) (by omega)), hT,
    h4.keep hp (fun x y hx => hc x y (by omega) (by omega)) (hm _ _ (by omega) (by omega)) (fun y _ _ => hm _ _ (by omega) (by omega)), h5.keep hp (fun x y hx => hc x y (by omega) (by omega)) (hm _ _ (by omega) (by omega)) (fun y _ _ => hm _ _ (by omega) (by omega)),
    h6.keep (fun x y hx => hc x y (by omega) (by omega)) (hm _ _ (by omega) (by omega)) (fun x y hx => hm _ _ (by omega) (by omega)), h7.keep (fun x y hx => hc x y (by omega) (by omega)) (hm _ _ (by omega) (by omega)) (fun y => hm _ _ (by omega) (by omega))⟩
end Ks
/-- a call on both sides: one answer, related again, nothing of the other side's written -/
def OKc (c m : jMem) (vc : Int32) (c' : jMem) (vm : Int32) (m' : jMem) : Prop := vc = vm ∧ (∃ p x u q n tl, Rel p x u q n tl c' m') ∧ (∀ x y, 165 ≤ x → c' x y = c x y) ∧ (∀ x y, x < 165 → m' x y = m x y)
