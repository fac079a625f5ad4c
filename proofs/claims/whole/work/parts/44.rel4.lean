theorem it_rel {σ τ : Type} {f : Nat → σ → σ} {g : Nat → τ → τ} {p : Nat} (R : σ → τ → Prop) (h : ∀ i s t, i < p → R s t → R (f i s) (g i t)) : ∀ n i s t, i + n ≤ p → R s t → R (it f n i s) (it g n i t)
  | 0, _, _, _, _, hr => hr
  | n + 1, i, s, t, hn, hr => it_rel R h n (i + 1) (f i s) (g i t) (by omega) (h i s t (by omega) hr)
theorem TR.held {p a r : Nat} {c m : jMem} (h : TR p a r c m) {x y : Nat} (hx : x < 5) (hy : y < 5) : tHeld c a x y = m 166 (r + 27 + 5 * x + y) := by
  unfold tHeld
  rw [h.pro (x * 5 + y) (by omega), show r + 27 + (x * 5 + y) = r + 27 + 5 * x + y by omega]
theorem TR.dec {p a r : Nat} {c m : jMem} (h : TR p a r c m) (hp : p ≤ 5) (ha : 14 ≤ a) {k j : Nat} (hk : k < p) (hj : j < p) : TR p a r (tDec a k j c) (rDec r k j m) := by
  unfold tDec rDec
  rw [h.st hj, h.thi j hj, h.held (by omega) (by omega)]
  by_cases z : rSt m r j = true
  · rw [if_pos z, if_pos z]
    exact h.w_thi ha hp (by omega) _
  · rw [if_neg z, if_neg z]
    have e : jup m 166 (r + 2 + j) (m 166 (r + 2 + j) - 0) = m := jup_same m (Int32.sub_zero _).symm
    rw [e]
    exact h
theorem TR.decs {p a r : Nat} {c m : jMem} (h : TR p a r c m) (hp : p ≤ 5) (ha : 14 ≤ a) {k : Nat} (hk : k < p) : TR p a r (it (tDec a k) p 0 c) (it (rDec r k) p 0 m) :=
  it_rel (f := tDec a k) (g := rDec r k) (p := p) (fun s t => TR p a r s t) (fun i s t hi hr => TR.dec hr hp ha hk hi) p 0 c m (by omega) h
