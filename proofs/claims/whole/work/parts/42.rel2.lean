theorem TR.w_thi {p a r : Nat} {c m : jMem} (h : TR p a r c m) (ha : 14 ≤ a) (hp : p ≤ 5) {k : Nat} (hk : k < 5) (v : Int32) : TR p a r (jup c (a + 1) k v) (jup m 166 (r + 2 + k) v) := by
  refine ⟨?_, ?_, fun j hj => ?_, fun j hj => ?_, fun j hj => ?_, fun j hj => ?_, fun j hj => ?_⟩
  · rw [jup_oth (by omega), jup_oth2 (by omega)]; exact h.sto
  · rw [jup_oth (by omega), jup_oth2 (by omega)]; exact h.day
  · by_cases e : j = k
    · subst e; rw [jup_self, jup_self]
    · rw [jup_oth2 e, jup_oth2 (by omega)]; exact h.thi j hj
  · rw [jup_oth (by omega), jup_oth2 (by omega)]; exact h.rou j hj
  · rw [jup_oth (by omega), jup_oth2 (by omega)]; exact h.hur j hj
  · rw [jup_oth (by omega), jup_oth (by omega), jup_oth2 (by omega), jup_oth2 (by omega)]; exact h.fel j hj
  · rw [jup_oth (by omega), jup_oth2 (by omega)]; exact h.pro j hj

theorem TR.w_rou {p a r : Nat} {c m : jMem} (h : TR p a r c m) (ha : 14 ≤ a) (hp : p ≤ 5) {k : Nat} (hk : k < 5) (v : Int32) : TR p a r (jup c (a + 2) k v) (jup m 166 (r + 12 + k) v) := by
  refine ⟨?_, ?_, fun j hj => ?_, fun j hj => ?_, fun j hj => ?_, fun j hj => ?_, fun j hj => ?_⟩
  · rw [jup_oth (by omega), jup_oth2 (by omega)]; exact h.sto
  · rw [jup_oth (by omega), jup_oth2 (by omega)]; exact h.day
  · rw [jup_oth (by omega), jup_oth2 (by omega)]; exact h.thi j hj
  · by_cases e : j = k
    · subst e; rw [jup_self, jup_self]
    · rw [jup_oth2 e, jup_oth2 (by omega)]; exact h.rou j hj
  · rw [jup_oth (by omega), jup_oth2 (by omega)]; exact h.hur j hj
  · rw [jup_oth (by omega), jup_oth (by omega), jup_oth2 (by omega), jup_oth2 (by omega)]; exact h.fel j hj
  · rw [jup_oth (by omega), jup_oth2 (by omega)]; exact h.pro j hj

theorem TR.w_hur {p a r : Nat} {c m : jMem} (h : TR p a r c m) (ha : 14 ≤ a) (hp : p ≤ 5) {k : Nat} (hk : k < 5) (v : Int32) : TR p a r (jup c (a + 3) k v) (jup m 166 (r + 17 + k) v) := by
  refine ⟨?_, ?_, fun j hj => ?_, fun j hj => ?_, fun j hj => ?_, fun j hj => ?_, fun j hj => ?_⟩
  · rw [jup_oth (by omega), jup_oth2 (by omega)]; exact h.sto
  · rw [jup_oth (by omega), jup_oth2 (by omega)]; exact h.day
  · rw [jup_oth (by omega), jup_oth2 (by omega)]; exact h.thi j hj
  · rw [jup_oth (by omega), jup_oth2 (by omega)]; exact h.rou j hj
  · by_cases e : j = k
    · subst e; rw [jup_self, jup_self]
    · rw [jup_oth2 e, jup_oth2 (by omega)]; exact h.hur j hj
  · rw [jup_oth (by omega), jup_oth (by omega), jup_oth2 (by omega), jup_oth2 (by omega)]; exact h.fel j hj
  · rw [jup_oth (by omega), jup_oth2 (by omega)]; exact h.pro j hj

theorem TR.w_sto {p a r : Nat} {c m : jMem} (h : TR p a r c m) (ha : 14 ≤ a) (hp : p ≤ 5)  (v : Int32) : TR p a r (jup c a 6 v) (jup m 166 (r + 0) v) := by
  refine ⟨?_, ?_, fun j hj => ?_, fun j hj => ?_, fun j hj => ?_, fun j hj => ?_, fun j hj => ?_⟩
  · rw [jup_self, jup_self]
  · rw [jup_oth2 (by decide), jup_oth2 (by omega)]; exact h.day
  · rw [jup_oth (by omega), jup_oth2 (by omega)]; exact h.thi j hj
  · rw [jup_oth (by omega), jup_oth2 (by omega)]; exact h.rou j hj
  · rw [jup_oth (by omega), jup_oth2 (by omega)]; exact h.hur j hj
  · rw [jup_oth (by omega), jup_oth (by omega), jup_oth2 (by omega), jup_oth2 (by omega)]; exact h.fel j hj
  · rw [jup_oth (by omega), jup_oth2 (by omega)]; exact h.pro j hj

theorem TR.w_day {p a r : Nat} {c m : jMem} (h : TR p a r c m) (ha : 14 ≤ a) (hp : p ≤ 5)  (v : Int32) : TR p a r (jup c a 7 v) (jup m 166 (r + 1) v) := by
  refine ⟨?_, ?_, fun j hj => ?_, fun j hj => ?_, fun j hj => ?_, fun j hj => ?_, fun j hj => ?_⟩
  · rw [jup_oth2 (by decide), jup_oth2 (by omega)]; exact h.sto
  · rw [jup_self, jup_self]
  · rw [jup_oth (by omega), jup_oth2 (by omega)]; exact h.thi j hj
  · rw [jup_oth (by omega), jup_oth2 (by omega)]; exact h.rou j hj
  · rw [jup_oth (by omega), jup_oth2 (by omega)]; exact h.hur j hj
  · rw [jup_oth (by omega), jup_oth (by omega), jup_oth2 (by omega), jup_oth2 (by omega)]; exact h.fel j hj
  · rw [jup_oth (by omega), jup_oth2 (by omega)]; exact h.pro j hj

theorem TR.w_pro {p a r : Nat} {c m : jMem} (h : TR p a r c m) (ha : 14 ≤ a) (hp : p ≤ 5) {k : Nat} (hk : k < 25) (v : Int32) : TR p a r (jup c (a + 5) k v) (jup m 166 (r + 27 + k) v) := by
  refine ⟨?_, ?_, fun j hj => ?_, fun j hj => ?_, fun j hj => ?_, fun j hj => ?_, fun j hj => ?_⟩
  · rw [jup_oth (by omega), jup_oth2 (by omega)]; exact h.sto
  · rw [jup_oth (by omega), jup_oth2 (by omega)]; exact h.day
  · rw [jup_oth (by omega), jup_oth2 (by omega)]; exact h.thi j hj
  · rw [jup_oth (by omega), jup_oth2 (by omega)]; exact h.rou j hj
  · rw [jup_oth (by omega), jup_oth2 (by omega)]; exact h.hur j hj
  · rw [jup_oth (by omega), jup_oth (by omega), jup_oth2 (by omega), jup_oth2 (by omega)]; exact h.fel j hj
  · by_cases e : j = k
    · subst e; rw [jup_self, jup_self]
    · rw [jup_oth2 e, jup_oth2 (by omega)]; exact h.pro j hj

theorem TR.w_fel {p a r : Nat} {c m : jMem} (h : TR p a r c m) (ha : 14 ≤ a) (hp : p ≤ 5) {k : Nat} (hk : k < 5) (f D F : Int32) (hf : k < p → FR (c 10 k) f D F) : TR p a r (jup c (a + 4) k f) (jup (jup m 166 (r + 7 + k) D) 166 (r + 22 + k) F) := by
  refine ⟨?_, ?_, fun j hj => ?_, fun j hj => ?_, fun j hj => ?_, fun j hj => ?_, fun j hj => ?_⟩
  · rw [jup_oth (by omega), jup_oth2 (by omega), jup_oth2 (by omega)]; exact h.sto
  · rw [jup_oth (by omega), jup_oth2 (by omega), jup_oth2 (by omega)]; exact h.day
  · rw [jup_oth (by omega), jup_oth2 (by omega), jup_oth2 (by omega)]; exact h.thi j hj
  · rw [jup_oth (by omega), jup_oth2 (by omega), jup_oth2 (by omega)]; exact h.rou j hj
  · rw [jup_oth (by omega), jup_oth2 (by omega), jup_oth2 (by omega)]; exact h.hur j hj
  · by_cases e : j = k
    · subst e; rw [jup_oth (by omega), jup_self, jup_oth2 (by omega), jup_self, jup_self]; exact hf hj
    · rw [jup_oth (by omega), jup_oth2 e, jup_oth2 (by omega), jup_oth2 (by omega), jup_oth2 (by omega), jup_oth2 (by omega)]; exact h.fel j hj
  · rw [jup_oth (by omega), jup_oth2 (by omega), jup_oth2 (by omega)]; exact h.pro j hj
theorem TR.round {p a r : Nat} {c m : jMem} (h : TR p a r c m) (hP : PR p c m) (ha : 14 ≤ a) {k : Nat} (hk : k < p) : TR p a r (tGo c a k) (rRo m r k) := by
  have hp := hP.p5
  unfold tGo rRo
  rw [hP.kin k hk, h.rou k hk]
  exact h.w_rou ha hp (by omega) _
