/-! THE TEXT READ -/
def TX (tl : Nat) (c m : jMem) : Prop := c 1 2 = nI tl ∧ m 165 12 = nI tl ∧ tl ≤ 200 ∧ ∀ k, k < tl → c 2 k = m 173 k
section Tx
variable {tl : Nat} {c c' m m' : jMem}
theorem TX.keep (h : TX tl c m) (hc : ∀ x y, x = 1 ∨ x = 2 → c' x y = c x y) (h1 : m' 165 12 = m 165 12) (hm : ∀ y, m' 173 y = m 173 y) : TX tl c' m' :=
  ⟨(hc _ _ (by omega)).trans h.1, h1.trans h.2.1, h.2.2.1, fun k hk => by rw [hc 2 k (by omega), hm]; exact h.2.2.2 k hk⟩
theorem TX.lt (h : TX tl c m) {k : Nat} (hk : k < 100000) : (xLt c k = rLt m k) ∨ (xLt c k = 0 ∧ rLt m k = -1) := by
  have ht := h.2.2.1
  unfold xLt rLt
  rw [h.1, h.2.1]
  by_cases z : k < tl
  · have e : nI k < nI tl := (nI_ltI (by omega) (by omega)).mpr z
    rw [if_pos e, if_pos e]; exact Or.inl (h.2.2.2 k z)
  · have e : ¬ nI k < nI tl := fun y => z ((nI_ltI (by omega) (by omega)).mp y)
    rw [if_neg e, if_neg e]; exact Or.inr ⟨rfl, rfl⟩
theorem TX.is (h : TX tl c m) {k : Nat} (hk : k < 100000) {ch : Int32} (h0 : ch ≠ 0) (h1 : ch ≠ -1) : (rLt m k = ch) ↔ (xLt c k = ch) := by
  rcases h.lt hk with e | ⟨e1, e2⟩
  · rw [e]
  · rw [e1, e2]; exact ⟨fun z => absurd z.symm h1, fun z => absurd z.symm h0⟩
theorem TX.dig (h : TX tl c m) {k : Nat} (hk : k < 100000) : rIn (rLt m k).toInt64 48 57 = xFg c k := by
  have e : ∀ v : Int32, rIn v.toInt64 48 57 = decide (48 ≤ v ∧ v ≤ 57) := fun v => by
    rw [g_in (l := 48) (h := 57) (by decide) (by decide)]
    unfold xOut
    rw [← decide_not]
    exact decide_eq_decide.mpr (by rw [i_lt, i_lt, i_le, i_le]; omega)
  unfold xFg
  rw [e]
  rcases h.lt hk with e | ⟨e1, e2⟩
  · rw [e]
  · rw [e1, e2]; decide
theorem TX.num (h : TX tl c m) {k : Nat} (hk : k < 100000) (hd : xFg c k = true) : xLt c k = rLt m k := by
  rcases h.lt hk with e | ⟨e1, e2⟩
  · exact e
  · unfold xFg at hd
    rw [e1] at hd
    exact absurd hd (by decide)
end Tx
theorem rLt_keep {m m' : jMem} (h1 : m' 165 12 = m 165 12) (hm : ∀ y, m' 173 y = m 173 y) (k : Nat) : rLt m' k = rLt m k := by
  unfold rLt
  rw [h1, hm]
theorem rts_lo (m : jMem) (k : Nat) : (∀ x y, x ≠ 165 ∨ (y ≠ 13 ∧ y ≠ 14) → rTs m k x y = m x y) ∧ rTs m k 165 14 = 10 * m 165 14 + rLt m k - 48 ∧ rTs m k 165 13 = m 165 13 + 1 := by
  unfold rTs
  refine ⟨fun x y h => ?_, ?_, ?_⟩
  · rcases h with h | h
    · rw [jup_oth h, jup_oth h]
    · rw [jup_oth2 h.1, jup_oth2 h.2]
  · rw [jup_oth2 (by decide), jup_self]
  · rw [jup_self, jup_oth2 (by decide)]
theorem tnL {tl pl : Nat} {c m : jMem} (h : TX tl c m) (h13 : m 165 13 = nI pl) (hpl : pl < 1000) : ∃ m1, rTnL 2 pl (jup m 165 14 0) = (pl + xFs c pl, m1) ∧ m1 165 13 = nI (pl + xFs c pl) ∧ (xFs c pl ≠ 0 → m1 165 14 = xNum c pl (nI (xFs c pl))) ∧ ∀ x y, x ≠ 165 ∨ (y ≠ 13 ∧ y ≠ 14) → m1 x y = m x y := by
  have f0 : ∀ x y, x ≠ 165 ∨ (y ≠ 13 ∧ y ≠ 14) → jup m 165 14 0 x y = m x y := fun x y h => by
    rcases h with h | h
    · exact jup_oth h
    · exact jup_oth2 h.2
  have hT0 : TX tl c (jup m 165 14 0) := h.keep (fun _ _ _ => rfl) (f0 _ _ (by omega)) (fun y => f0 _ _ (by omega))
  have t1 := rts_lo (jup m 165 14 0) pl
  generalize hm1 : rTs (jup m 165 14 0) pl = m1 at t1
  have f1 : ∀ x y, x ≠ 165 ∨ (y ≠ 13 ∧ y ≠ 14) → m1 x y = m x y := fun x y hx => (t1.1 x y hx).trans (f0 x y hx)
  have hT1 : TX tl c m1 := h.keep (fun _ _ _ => rfl) (f1 _ _ (by omega)) (fun y => f1 _ _ (by omega))
  have t2 := rts_lo m1 (pl + 1)
  generalize hm2 : rTs m1 (pl + 1) = m2 at t2
  have f2 : ∀ x y, x ≠ 165 ∨ (y ≠ 13 ∧ y ≠ 14) → m2 x y = m x y := fun x y hx => (t2.1 x y hx).trans (f1 x y hx)
  rw [rTnL, hT0.dig (by omega), hm1]
  unfold xFs
  cases d0 : xFg c pl with
  | false =>
    rw [b_f, b_f]
    exact ⟨_, rfl, (jup_oth2 (by decide)).trans h13, fun z => absurd rfl z, f0⟩
  | true =>
    rw [b_t, b_t, rTnL, hT1.dig (by omega), hm2]
    have e14 : m1 165 14 = xLt c pl - 48 := by
      rw [t1.2.1, jup_self, hT0.num (by omega) d0, Int32.mul_zero, Int32.zero_add]
    have e13 : m1 165 13 = nI (pl + 1) := by rw [t1.2.2, jup_oth2 (by decide), h13, nI_1]
    cases d1 : xFg c (pl + 1) with
    | false =>
      rw [b_f, b_f]
      refine ⟨m1, rfl, e13, fun _ => ?_, f1⟩
      rw [e14]; unfold xNum; rw [if_pos (by decide)]
    | true =>
      rw [b_t, b_t, rTnL]
      refine ⟨m2, rfl, by rw [t2.2.2, e13, nI_1], fun _ => ?_, f2⟩
      rw [t2.2.1, e14, ← hT1.num (by omega) d1]
      unfold xNum
      rw [if_neg (by decide), Int32.mul_comm]
theorem tn_spec {tl pl : Nat} {c m : jMem} (h : TX tl c m) (h13 : m 165 13 = nI pl) (hpl : pl < 1000) {l hh sg : Int32} (hs0 : sg ≠ 0) (hs1 : sg ≠ -1) : (∀ x y, x ≠ 165 ∨ (y ≠ 13 ∧ y ≠ 14) → (rTn m l hh sg pl).2 x y = m x y) ∧
    (((xFs c pl ≠ 0 ∧ xLt c (pl + xFs c pl) = sg) ∧ xOut (xNum c pl (nI (xFs c pl))) l hh = false ∧ ∃ m', rTn m l hh sg pl = (some (pl + xFs c pl + 1), m') ∧ m' 165 14 = xNum c pl (nI (xFs c pl)) ∧ m' 165 13 = nI (pl + xFs c pl + 1)) ∨
    (¬ ((xFs c pl ≠ 0 ∧ xLt c (pl + xFs c pl) = sg) ∧ xOut (xNum c pl (nI (xFs c pl))) l hh = false) ∧ (rTn m l hh sg pl).1 = none)) := by
  obtain ⟨m1, e1, e2, e3, e4⟩ := tnL h h13 hpl
  have hf2 : xFs c pl ≤ 2 := by unfold xFs; split <;> (try split) <;> omega
  have hT1 : TX tl c m1 := h.keep (fun _ _ _ => rfl) (e4 _ _ (by omega)) (fun y => e4 _ _ (by omega))
  unfold rTn
  dsimp only
  rw [e1]
  dsimp only
  have hc : (¬ m1 165 13 = nI pl ∧ rIn (m1 165 14).toInt64 l.toInt64 hh.toInt64 = true ∧ rLt m1 (pl + xFs c pl) = sg) ↔ ((xFs c pl ≠ 0 ∧ xLt c (pl + xFs c pl) = sg) ∧ xOut (xNum c pl (nI (xFs c pl))) l hh = false) := by
    rw [e2, nI_eq (by omega) (by omega), hT1.is (by omega) hs0 hs1]
    constructor
    · intro z
      have z0 : xFs c pl ≠ 0 := by omega
      have z1 := z.2.1
      rw [e3 z0, g_in rfl rfl, Bool.not_eq_true'] at z1
      exact ⟨⟨z0, z.2.2⟩, z1⟩
    · intro z
      exact ⟨by omega, by rw [e3 z.1.1, g_in rfl rfl, z.2]; rfl, z.1.2⟩
  by_cases z : ¬ m1 165 13 = nI pl ∧ rIn (m1 165 14).toInt64 l.toInt64 hh.toInt64 = true ∧ rLt m1 (pl + xFs c pl) = sg
  · rw [if_pos z]
    obtain ⟨z1, z2⟩ := hc.mp z
    refine ⟨fun x y hx => ?_, Or.inl ⟨z1, z2, _, rfl, ?_, ?_⟩⟩
    · show jup m1 165 13 _ x y = m x y
      rcases hx with hx | hx
      · rw [jup_oth hx]; exact e4 x y (Or.inl hx)
      · rw [jup_oth2 hx.1]; exact e4 x y (Or.inr hx)
    · rw [jup_oth2 (by decide)]; exact e3 z1.1
    · rw [jup_self, e2, nI_1]
  · rw [if_neg z]
    exact ⟨e4, Or.inr ⟨fun y => z (hc.mpr y), rfl⟩⟩
/-! the class's side of an item -/
theorem x3_fs (m : jMem) (i : Nat) (v : Int32) (k : Nat) : xFs (jup m 3 i v) k = xFs m k ∧ xLt (jup m 3 i v) k = xLt m k ∧ ∀ f, xNum (jup m 3 i v) k f = xNum m k f := by
  have e : ∀ k, xLt (jup m 3 i v) k = xLt m k := fun k => by unfold xLt; rw [jup_oth (by decide), jup_oth (by decide)]
  refine ⟨?_, e k, fun f => ?_⟩
  · unfold xFs xFg; rw [e, e]
  · unfold xNum; rw [e, e]
theorem xit_step (due n i k : Nat) (m : jMem) : ((xFs m k ≠ 0 ∧ xLt m (k + xFs m k) = xSep due i) ∧ xItL due (n + 1) i k m = xItL due n (i + 1) (k + xFs m k + 1) (jup m 3 i (xNum m k (nI (xFs m k))))) ∨ (¬ (xFs m k ≠ 0 ∧ xLt m (k + xFs m k) = xSep due i) ∧ (xItL due (n + 1) i k m).1 = none) := by
  rw [xItL]
  by_cases z : xFs m k = 0
  · rw [if_pos z]; exact Or.inr ⟨fun y => y.1 z, rfl⟩
  · rw [if_neg z, (x3_fs _ _ _ _).2.1]
    by_cases y : xLt m (k + xFs m k) = xSep due i
    · rw [if_pos y]; exact Or.inl ⟨⟨z, y⟩, rfl⟩
    · rw [if_neg y]; exact Or.inr ⟨fun w => y w.2, rfl⟩
/-- three numbers, as the class reads them -/
def x3C (m : jMem) (k : Nat) : Prop := (xFs m k ≠ 0 ∧ xLt m (k + xFs m k) = 44) ∧ (xFs m (k + xFs m k + 1) ≠ 0 ∧ xLt m (k + xFs m k + 1 + xFs m (k + xFs m k + 1)) = 44) ∧ (xFs m (k + xFs m k + 1 + xFs m (k + xFs m k + 1) + 1) ≠ 0 ∧ xLt m (k + xFs m k + 1 + xFs m (k + xFs m k + 1) + 1 + xFs m (k + xFs m k + 1 + xFs m (k + xFs m k + 1) + 1)) = 59)
theorem x3_it (m : jMem) (k : Nat) : (x3C m k ∧ xItL 3 3 0 k m = (some (k + xFs m k + 1 + xFs m (k + xFs m k + 1) + 1 + xFs m (k + xFs m k + 1 + xFs m (k + xFs m k + 1) + 1) + 1), jup (jup (jup m 3 0 (xNum m k (nI (xFs m k)))) 3 1 (xNum m (k + xFs m k + 1) (nI (xFs m (k + xFs m k + 1))))) 3 2 (xNum m (k + xFs m k + 1 + xFs m (k + xFs m k + 1) + 1) (nI (xFs m (k + xFs m k + 1 + xFs m (k + xFs m k + 1) + 1)))))) ∨ (¬ x3C m k ∧ (xItL 3 3 0 k m).1 = none) := by
  have s0 : xSep 3 0 = 44 := by decide
  have s1 : xSep 3 1 = 44 := by decide
  have s2 : xSep 3 2 = 59 := by decide
  rcases xit_step 3 2 0 k m with ⟨a1, a2⟩ | ⟨a1, a2⟩
  · rw [a2]
    rw [s0] at a1
    generalize hm1 : jup m 3 0 (xNum m k (nI (xFs m k))) = m1
    have e1 : ∀ k, xFs m1 k = xFs m k ∧ xLt m1 k = xLt m k ∧ ∀ f, xNum m1 k f = xNum m k f := fun k => by rw [← hm1]; exact x3_fs _ _ _ _
    rcases xit_step 3 1 1 (k + xFs m k + 1) m1 with ⟨b1, b2⟩ | ⟨b1, b2⟩
    · rw [b2]
      rw [s1, (e1 _).1, (e1 _).2.1] at b1
      rw [(e1 _).1, (e1 _).2.2]
      generalize hm2 : jup m1 3 1 (xNum m (k + xFs m k + 1) (nI (xFs m (k + xFs m k + 1)))) = m2
      have e2 : ∀ k, xFs m2 k = xFs m k ∧ xLt m2 k = xLt m k ∧ ∀ f, xNum m2 k f = xNum m k f := fun k => by
        rw [← hm2, (x3_fs _ _ _ _).1, (x3_fs _ _ _ _).2.1, (e1 k).1, (e1 k).2.1]
        exact ⟨rfl, rfl, fun f => by rw [(x3_fs _ _ _ _).2.2, (e1 k).2.2]⟩
      rcases xit_step 3 0 2 (k + xFs m k + 1 + xFs m (k + xFs m k + 1) + 1) m2 with ⟨d1, d2⟩ | ⟨d1, d2⟩
      · rw [d2]
        rw [s2, (e2 _).1, (e2 _).2.1] at d1
        rw [(e2 _).1, (e2 _).2.2]
        exact Or.inl ⟨⟨a1, b1, d1⟩, rfl⟩
      · rw [s2, (e2 _).1, (e2 _).2.1] at d1
        exact Or.inr ⟨fun z => d1 z.2.2, d2⟩
    · rw [s1, (e1 _).1, (e1 _).2.1] at b1
      exact Or.inr ⟨fun z => b1 z.2.1, b2⟩
  · rw [s0] at a1
    exact Or.inr ⟨fun z => a1 z.1, a2⟩
