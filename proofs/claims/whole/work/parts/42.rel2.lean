/-! ONE FALL: what each side's memory reads behind it -/
section FA
variable {a : Nat} {c : jMem} {w : Nat} {way : Int32} {j : Nat}
theorem fa_thi : tFA c a w way (a + 1) j = c (a + 1) j := by
  unfold tFA tF3 tF2 tF1
  split <;> split <;> simp only [jup_oth (show a + 1 ≠ a + 3 by omega), jup_oth (show a + 1 ≠ a by omega), jup_oth (show a + 1 ≠ a + 2 by omega), jup_oth (show a + 1 ≠ a + 4 by omega)]
theorem fa_rou : tFA c a w way (a + 2) j = if j = w then 0 else c (a + 2) j := by
  unfold tFA tF3 tF2 tF1
  have e : jup (jup c (a + 4) w (c (a + 4) w + 1)) (a + 2) w 0 (a + 2) j = if j = w then 0 else c (a + 2) j := by
    by_cases h : j = w
    · rw [h, jup_self, if_pos rfl]
    · rw [jup_oth2 h, if_neg h, jup_oth (by omega)]
  split <;> split <;> simp only [jup_oth (show a + 2 ≠ a + 3 by omega), jup_oth (show a + 2 ≠ a by omega), e]
theorem fa_fel : tFA c a w way (a + 4) j = if j = w then c (a + 4) w + 1 else c (a + 4) j := by
  unfold tFA tF3 tF2 tF1
  have e : jup (jup c (a + 4) w (c (a + 4) w + 1)) (a + 2) w 0 (a + 4) j = if j = w then c (a + 4) w + 1 else c (a + 4) j := by
    rw [jup_oth (by omega)]
    by_cases h : j = w
    · rw [h, jup_self, if_pos rfl]
    · rw [jup_oth2 h, if_neg h]
  split <;> split <;> simp only [jup_oth (show a + 4 ≠ a + 3 by omega), jup_oth (show a + 4 ≠ a by omega), e]
theorem fa_fr {x : Nat} (hx : x < a ∨ a + 4 < x) : tFA c a w way x j = c x j := by
  unfold tFA tF3 tF2 tF1
  split <;> split <;> simp only [jup_oth (show x ≠ a + 3 by omega), jup_oth (show x ≠ a by omega), jup_oth (show x ≠ a + 2 by omega), jup_oth (show x ≠ a + 4 by omega)]
theorem fa_day : tFA c a w way a 7 = c a 7 := by
  unfold tFA tF3 tF2 tF1
  split <;> split <;> simp only [jup_oth (show a ≠ a + 3 by omega), jup_oth2 (show 7 ≠ 6 by decide), jup_oth (show a ≠ a + 2 by omega), jup_oth (show a ≠ a + 4 by omega)]
theorem fa_sto (ha : 14 ≤ a) : tFA c a w way a 6 = if way = 1 then c a 6 + c 11 w else c a 6 := by
  unfold tFA tF3 tF2 tF1
  by_cases h : way = 1
  · rw [if_pos h, if_pos h]
    split <;> simp only [jup_self, jup_oth (show a ≠ a + 3 by omega), jup_oth (show a ≠ a + 2 by omega), jup_oth (show a ≠ a + 4 by omega), jup_oth (show 11 ≠ a + 2 by omega), jup_oth (show 11 ≠ a + 4 by omega)]
  · rw [if_neg h, if_neg h]
    split <;> simp only [jup_oth (show a ≠ a + 3 by omega), jup_oth (show a ≠ a + 2 by omega), jup_oth (show a ≠ a + 4 by omega)]
theorem fa_hur (ha : 14 ≤ a) : tFA c a w way (a + 3) j = if (way = 2 ∧ nI w + 1 < c 9 0) ∧ j = w + 1 then c (a + 3) (w + 1) + 1 else c (a + 3) j := by
  unfold tFA
  have e1 : tF2 (tF1 c a w) a w way 9 0 = c 9 0 := by
    unfold tF2 tF1
    split <;> simp only [jup_oth (show 9 ≠ a by omega), jup_oth (show 9 ≠ a + 2 by omega), jup_oth (show 9 ≠ a + 4 by omega)]
  have e2 : ∀ j, tF2 (tF1 c a w) a w way (a + 3) j = c (a + 3) j := fun j => by
    unfold tF2 tF1
    split <;> simp only [jup_oth (show a + 3 ≠ a by omega), jup_oth (show a + 3 ≠ a + 2 by omega), jup_oth (show a + 3 ≠ a + 4 by omega)]
  unfold tF3
  rw [e1]
  by_cases h : way = 2 ∧ nI w + 1 < c 9 0
  · rw [if_pos h]
    by_cases h2 : j = w + 1
    · rw [h2, jup_self, if_pos ⟨h, rfl⟩, e2]
    · rw [jup_oth2 h2, if_neg (fun z => h2 z.2), e2]
  · rw [if_neg h, if_neg (fun z => h z.1), e2]
end FA
section F2
variable {m : jMem} {r k : Nat} {b : Bool}
theorem f2_any {y : Nat} (h1 : y ≠ r + 12 + k) (h2 : y ≠ r + 0) (h3 : y ≠ r + 17 + k + 1) : rF2 m r k b 166 y = m 166 y := by
  unfold rF2 rF1
  rw [jup_oth2 h1]
  split
  · exact jup_oth2 h2
  · split
    · exact jup_oth2 h3
    · rfl
theorem f2_anyP {y p : Nat} (hm : m 165 3 = nI p) (hp : p ≤ 5) (hk : k < 5) (h1 : y ≠ r + 12 + k) (h2 : y ≠ r + 0) (h3 : k + 1 < p → y ≠ r + 17 + k + 1) : rF2 m r k b 166 y = m 166 y := by
  unfold rF2 rF1
  rw [jup_oth2 h1]
  split
  · exact jup_oth2 h2
  · split
    · rename_i z
      rw [hm, nI_1, nI_ltI (by omega) (by omega)] at z
      exact jup_oth2 (h3 z)
    · rfl
theorem f2_rou {j : Nat} (hj : j < 5) (hk : k < 5) : rF2 m r k b 166 (r + 12 + j) = if j = k then 0 else m 166 (r + 12 + j) := by
  by_cases h : j = k
  · rw [h, if_pos rfl]; unfold rF2; rw [jup_self]
  · rw [if_neg h]; exact f2_any (by omega) (by omega) (by omega)
theorem f2_sto (hk : k < 5) : rF2 m r k b 166 (r + 0) = if b = true then m 166 (r + 0) + m 168 k else m 166 (r + 0) := by
  unfold rF2 rF1
  rw [jup_oth2 (by omega)]
  split
  · rw [jup_self]
  · split
    · exact jup_oth2 (by omega)
    · rfl
theorem f2_hur {j : Nat} (hj : j < 5) (hk : k < 5) : rF2 m r k b 166 (r + 17 + j) = if (b = false ∧ nI k + 1 < m 165 3) ∧ j = k + 1 then m 166 (r + 17 + (k + 1)) + 1 else m 166 (r + 17 + j) := by
  unfold rF2 rF1
  rw [jup_oth2 (by omega)]
  cases b with
  | true => rw [if_pos rfl, jup_oth2 (by omega), if_neg (fun z => absurd z.1.1 (by decide))]
  | false =>
    rw [if_neg (by decide)]
    by_cases h : nI k + 1 < m 165 3
    · rw [if_pos h]
      by_cases h2 : j = k + 1
      · rw [if_pos ⟨⟨rfl, h⟩, h2⟩, h2, show r + 17 + k + 1 = r + 17 + (k + 1) by omega, jup_self]
      · rw [if_neg (fun z => h2 z.2)]; exact jup_oth2 (by omega)
    · rw [if_neg h, if_neg (fun z => h z.1.2)]
end F2
/-! the props fall away -/
theorem ds_fr {a w : Nat} {x y : Nat} (hx : x ≠ a + 1) : ∀ (n i : Nat) (s : jMem), it (tDec a w) n i s x y = s x y
  | 0, _, _ => rfl
  | n + 1, i, s => by
    rw [it, ds_fr hx n (i + 1)]
    unfold tDec
    split
    · exact jup_oth hx
    · rfl
theorem td_st {a w i : Nat} (ha : 14 ≤ a) (s : jMem) (k : Nat) : tSt (tDec a w i s) a k = tSt s a k := by
  have e : ∀ x y, x ≠ a + 1 → tDec a w i s x y = s x y := fun x y h => ds_fr (n := 1) (i := i) h s
  unfold tSt
  rw [e _ _ (by omega), e _ _ (by omega)]
theorem ds_thi {a w p k : Nat} (ha : 14 ≤ a) (hk : k < p) : ∀ (n i : Nat) (s : jMem), i + n = p → it (tDec a w) n i s (a + 1) k = if i ≤ k ∧ tSt s a k = true then s (a + 1) k - tHeld s a w k else s (a + 1) k
  | 0, i, s, h => by rw [it, if_neg (by omega)]
  | n + 1, i, s, h => by
    rw [it, ds_thi ha hk n (i + 1) _ (by omega), td_st ha]
    have e5 : tHeld (tDec a w i s) a w k = tHeld s a w k := ds_fr (n := 1) (i := i) (by omega) s
    rw [e5]
    by_cases h1 : i = k
    · subst h1
      rw [if_neg (by omega)]
      unfold tDec
      by_cases z : tSt s a i = true
      · rw [if_pos z, jup_self, if_pos ⟨Nat.le_refl _, z⟩]
      · rw [if_neg z, if_neg (fun q => z q.2)]
    · have e1 : tDec a w i s (a + 1) k = s (a + 1) k := by
        unfold tDec
        split
        · exact jup_oth2 (fun q => h1 q.symm)
        · rfl
      rw [e1]
      by_cases h2 : i + 1 ≤ k ∧ tSt s a k = true
      · rw [if_pos h2, if_pos ⟨by omega, h2.2⟩]
      · rw [if_neg h2, if_neg (fun q => h2 ⟨by omega, q.2⟩)]
theorem rs_row {r k p : Nat} {y : Nat} (hy : ∀ j, j < p → y ≠ r + 2 + j) : ∀ (n i : Nat) (m : jMem), i + n ≤ p → it (rDec r k) n i m 166 y = m 166 y
  | 0, _, _, _ => rfl
  | n + 1, i, m, h => by
    rw [it, rs_row hy n (i + 1) _ (by omega)]
    exact jup_oth2 (hy i (by omega))
theorem rs_thi {r k p j : Nat} (hp : p ≤ 5) (hk : k < 5) (hj : j < p) : ∀ (n i : Nat) (m : jMem), i + n = p → it (rDec r k) n i m 166 (r + 2 + j) = if i ≤ j ∧ rSt m r j = true then m 166 (r + 2 + j) - m 166 (r + 27 + 5 * k + j) else m 166 (r + 2 + j)
  | 0, i, m, h => by rw [it, if_neg (by omega)]
  | n + 1, i, m, h => by
    have e1 : ∀ y, y ≠ r + 2 + i → rDec r k i m 166 y = m 166 y := fun y hy => jup_oth2 hy
    have e2 : rSt (rDec r k i m) r j = rSt m r j := by unfold rSt; rw [e1 _ (by omega)]
    rw [it, rs_thi hp hk hj n (i + 1) _ (by omega), e2, e1 (r + 27 + 5 * k + j) (by omega)]
    by_cases h1 : i = j
    · subst h1
      rw [if_neg (by omega)]
      unfold rDec
      rw [jup_self]
      by_cases z : rSt m r i = true
      · rw [if_pos z, if_pos ⟨Nat.le_refl _, z⟩]
      · rw [if_neg z, if_neg (fun q => z q.2), Int32.sub_zero]
    · rw [e1 _ (by omega)]
      by_cases h2 : i + 1 ≤ j ∧ rSt m r j = true
      · rw [if_pos h2, if_pos ⟨by omega, h2.2⟩]
      · rw [if_neg h2, if_neg (fun q => h2 ⟨by omega, q.2⟩)]
/-! loops side by side -/
theorem it_itO {σ τ : Type} {f : Nat → σ → σ} {g : Nat → τ → Option τ} {p : Nat} (R : Nat → σ → τ → Prop) (h : ∀ i s t, i < p → R i s t → ∃ t', g i t = some t' ∧ R (i + 1) (f i s) t') : ∀ n i s t, i + n = p → R i s t → ∃ t', itO g n i t = some t' ∧ R p (it f n i s) t'
  | 0, i, s, t, hn, hr => ⟨t, rfl, by have : i = p := by omega
                                      subst this; exact hr⟩
  | n + 1, i, s, t, hn, hr => by
    obtain ⟨t1, e1, r1⟩ := h i s t (by omega) hr
    obtain ⟨t2, e2, r2⟩ := it_itO R h n (i + 1) (f i s) t1 (by omega) r1
    exact ⟨t2, by rw [itO, e1]; exact e2, r2⟩
theorem it_rel {σ τ : Type} {f : Nat → σ → σ} {g : Nat → τ → τ} {p : Nat} (R : Nat → σ → τ → Prop) (h : ∀ i s t, i < p → R i s t → R (i + 1) (f i s) (g i t)) : ∀ n i s t, i + n = p → R i s t → R p (it f n i s) (it g n i t)
  | 0, i, s, t, hn, hr => by have : i = p := by omega
                             subst this; exact hr
  | n + 1, i, s, t, hn, hr => it_rel R h n (i + 1) (f i s) (g i t) (by omega) (h i s t (by omega) hr)
