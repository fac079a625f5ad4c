/-! A FALL WITH ALL THAT COMES OF IT -/
def MI (p a : Nat) (c : jMem) : Prop := (∀ k, k < p → 0 ≤ q_fe c a k ∧ q_fe c a k ≤ q_mx c k) ∧ (∀ k, k < p → -200 + 40 * (q_S p a c : Int) ≤ q_th c a k ∧ q_th c a k ≤ 99) ∧ (∀ i, i < 25 → 0 ≤ (c (a + 5) i).toInt ∧ (c (a + 5) i).toInt ≤ 40) ∧ (∀ k, k < p → 1 ≤ (c 11 k).toInt ∧ (c 11 k).toInt ≤ 60)
def q_so (p a : Nat) (c : jMem) : Prop := 0 ≤ (c a 6).toInt ∧ (c a 6).toInt ≤ 60 + 60 * q_F p a c
/-- from c to c' walls fell; P: who may stand with nothing left -/
def FQ (p a : Nat) (c c' : jMem) (P : Nat → Prop) : Prop :=
  (∀ x y, x < a ∨ a + 4 < x → c' x y = c x y) ∧ c' a 7 = c a 7 ∧
  (∀ k, k < p → q_fe c a k ≤ q_fe c' a k ∧ q_fe c' a k ≤ q_mx c k) ∧
  (∀ k, k < p → -200 + 40 * (q_S p a c' : Int) ≤ q_th c' a k ∧ q_th c' a k ≤ 99) ∧
  (∀ k, k < p → tSt c' a k = true → q_th c' a k ≤ 0 → P k) ∧
  (∀ k, k < p → c' (a + 2) k = if q_fe c' a k = q_fe c a k then c (a + 2) k else 0) ∧
  (∀ k, k < p → tSt c' a k = false → q_th c' a k = 0 ∨ (tSt c a k = false ∧ q_th c' a k = q_th c a k)) ∧
  (q_so p a c → q_so p a c')
section FQs
variable {p a : Nat} {c s s' : jMem} {P P1 P2 : Nat → Prop}
theorem FQ.mx (ha : 14 ≤ a) (h : FQ p a c s P) (k : Nat) : q_mx s k = q_mx c k := by unfold q_mx; rw [h.1 10 k (by omega)]
theorem FQ.st (ha : 14 ≤ a) (h : FQ p a c s P) {k : Nat} (hk : k < p) (z : tSt s a k = true) : tSt c a k = true := by
  rw [q_st] at z ⊢
  rw [h.mx ha] at z
  have := h.2.2.1 k hk
  omega
theorem FQ.trans (ha : 14 ≤ a) (h : FQ p a c s P1) (g : FQ p a s s' P2) : FQ p a c s' P2 := by
  have hm := h.mx ha
  obtain ⟨h1, h2, h3, h4, h5, h6, h7, h8⟩ := h
  obtain ⟨g1, g2, g3, g4, g5, g6, g7, g8⟩ := g
  refine ⟨fun x y z => (g1 x y z).trans (h1 x y z), g2.trans h2, fun k hk => ?_, g4, g5, fun k hk => ?_, fun k hk z => ?_, fun z => g8 (h8 z)⟩
  · have a1 := h3 k hk
    have a2 := g3 k hk
    rw [hm] at a2
    omega
  · rw [g6 k hk, h6 k hk]
    have a1 := h3 k hk
    have a2 := g3 k hk
    by_cases z1 : q_fe s' a k = q_fe s a k
    · by_cases z2 : q_fe s a k = q_fe c a k
      · rw [if_pos z1, if_pos z2, if_pos (by omega)]
      · rw [if_pos z1, if_neg z2, if_neg (by omega)]
    · rw [if_neg z1, if_neg (by omega)]
  · rcases g7 k hk z with e | ⟨e1, e2⟩
    · exact Or.inl e
    · rcases h7 k hk e1 with e | ⟨e3, e4⟩
      · left; rw [e2, e]
      · right; exact ⟨e3, by rw [e2, e4]⟩
theorem FQ.mono (h : FQ p a c s P1) (g : ∀ k, k < p → tSt s a k = true → q_th s a k ≤ 0 → P2 k) : FQ p a c s P2 := ⟨h.1, h.2.1, h.2.2.1, h.2.2.2.1, g, h.2.2.2.2.2⟩
theorem FQ.mi (ha : 14 ≤ a) (h : FQ p a c s P) (hM : MI p a c) : MI p a s := by
  refine ⟨fun k hk => ?_, h.2.2.2.1, fun i hi => ?_, fun k hk => ?_⟩
  · have a1 := h.2.2.1 k hk
    have a2 := hM.1 k hk
    rw [h.mx ha]
    omega
  · rw [h.1 (a + 5) i (by omega)]; exact hM.2.2.1 i hi
  · rw [h.1 11 k (by omega)]; exact hM.2.2.2 k hk
end FQs
theorem FR.fall {kd f D F : Int32} (h : FR kd f D F) (hs : decide (f < if kd = 3 then 2 else 1) = true) : (decide (f + 1 < if kd = 3 then 2 else 1) = decide (kd = 3 ∧ F = 0)) ∧ (kd = 3 ∧ F = 0 → FR kd (f + 1) D 1) ∧ (¬ (kd = 3 ∧ F = 0) → FR kd (f + 1) 1 F) := by
  rcases h with ⟨h1, h | h | h⟩ | ⟨h1, h0, h | h⟩
  · obtain ⟨h2, h3, h4⟩ := h; subst h1 h2 h3 h4
    exact ⟨by decide, fun _ => Or.inl ⟨rfl, Or.inr (Or.inl ⟨by decide, rfl, rfl⟩)⟩, fun z => absurd ⟨rfl, rfl⟩ z⟩
  · obtain ⟨h2, h3, h4⟩ := h; subst h1 h2 h3 h4
    exact ⟨by decide, fun z => absurd z.2 (by decide), fun _ => Or.inl ⟨rfl, Or.inr (Or.inr ⟨by decide, rfl, rfl⟩)⟩⟩
  · obtain ⟨h2, h3, h4⟩ := h; subst h1 h2 h3 h4
    exact absurd hs (by decide)
  · obtain ⟨h2, h3⟩ := h; subst h2 h3 h0
    rw [if_neg h1]
    refine ⟨?_, fun z => absurd z.1 h1, fun _ => Or.inr ⟨h1, rfl, Or.inr ⟨by decide, rfl⟩⟩⟩
    rw [decide_eq_false (p := kd = 3 ∧ (0 : Int32) = 0) (fun z => h1 z.1)]
    decide
  · obtain ⟨h2, h3⟩ := h; subst h2 h3
    rw [if_neg h1] at hs
    exact absurd hs (by decide)
section TRw
variable {e : Prop} {p a r : Nat} {c m : jMem}
theorem TR.w_thi (h : TR e p a r c m) (ha : 14 ≤ a) (hp : p ≤ 5) {k : Nat} (hk : k < 5) (v : Int32) : TR e p a r (jup c (a + 1) k v) (jup m 166 (r + 2 + k) v) := by
  refine ⟨fun j hj => ?_, fun j hj => ?_, fun j hj => ?_, fun j hj => ?_, fun he => ⟨?_, ?_, fun j hj => ?_⟩⟩
  · by_cases z : j = k
    · rw [z, jup_self, jup_self]
    · rw [jup_oth2 z, jup_oth2 (by omega)]; exact h.thi j hj
  · rw [jup_oth (by omega), jup_oth2 (by omega)]; exact h.rou j hj
  · rw [jup_oth (by omega), jup_oth (by omega), jup_oth2 (by omega), jup_oth2 (by omega)]; exact h.fel j hj
  · rw [jup_oth (by omega), jup_oth2 (by omega)]; exact h.pro j hj
  · rw [jup_oth (by omega), jup_oth2 (by omega)]; exact h.sto he
  · rw [jup_oth (by omega), jup_oth2 (by omega)]; exact h.day he
  · rw [jup_oth (by omega), jup_oth2 (by omega)]; exact h.hur he j hj
theorem TR.w_rou (h : TR e p a r c m) (ha : 14 ≤ a) (hp : p ≤ 5) {k : Nat} (hk : k < 5) (v : Int32) : TR e p a r (jup c (a + 2) k v) (jup m 166 (r + 12 + k) v) := by
  refine ⟨fun j hj => ?_, fun j hj => ?_, fun j hj => ?_, fun j hj => ?_, fun he => ⟨?_, ?_, fun j hj => ?_⟩⟩
  · rw [jup_oth (by omega), jup_oth2 (by omega)]; exact h.thi j hj
  · by_cases z : j = k
    · rw [z, jup_self, jup_self]
    · rw [jup_oth2 z, jup_oth2 (by omega)]; exact h.rou j hj
  · rw [jup_oth (by omega), jup_oth (by omega), jup_oth2 (by omega), jup_oth2 (by omega)]; exact h.fel j hj
  · rw [jup_oth (by omega), jup_oth2 (by omega)]; exact h.pro j hj
  · rw [jup_oth (by omega), jup_oth2 (by omega)]; exact h.sto he
  · rw [jup_oth (by omega), jup_oth2 (by omega)]; exact h.day he
  · rw [jup_oth (by omega), jup_oth2 (by omega)]; exact h.hur he j hj
theorem TR.w_pro (h : TR e p a r c m) (ha : 14 ≤ a) (hp : p ≤ 5) {k : Nat} (hk : k < 25) (v : Int32) : TR e p a r (jup c (a + 5) k v) (jup m 166 (r + 27 + k) v) := by
  refine ⟨fun j hj => ?_, fun j hj => ?_, fun j hj => ?_, fun j hj => ?_, fun he => ⟨?_, ?_, fun j hj => ?_⟩⟩
  · rw [jup_oth (by omega), jup_oth2 (by omega)]; exact h.thi j hj
  · rw [jup_oth (by omega), jup_oth2 (by omega)]; exact h.rou j hj
  · rw [jup_oth (by omega), jup_oth (by omega), jup_oth2 (by omega), jup_oth2 (by omega)]; exact h.fel j hj
  · by_cases z : j = k
    · rw [z, jup_self, jup_self]
    · rw [jup_oth2 z, jup_oth2 (by omega)]; exact h.pro j hj
  · rw [jup_oth (by omega), jup_oth2 (by omega)]; exact h.sto he
  · rw [jup_oth (by omega), jup_oth2 (by omega)]; exact h.day he
  · rw [jup_oth (by omega), jup_oth2 (by omega)]; exact h.hur he j hj
theorem TR.w_sto (h : TR e p a r c m) (ha : 14 ≤ a) (hp : p ≤ 5) (v : Int32) : TR e p a r (jup c a 6 v) (jup m 166 (r + 0) v) := by
  refine ⟨fun j hj => ?_, fun j hj => ?_, fun j hj => ?_, fun j hj => ?_, fun he => ⟨?_, ?_, fun j hj => ?_⟩⟩
  · rw [jup_oth (by omega), jup_oth2 (by omega)]; exact h.thi j hj
  · rw [jup_oth (by omega), jup_oth2 (by omega)]; exact h.rou j hj
  · rw [jup_oth (by omega), jup_oth (by omega), jup_oth2 (by omega), jup_oth2 (by omega)]; exact h.fel j hj
  · rw [jup_oth (by omega), jup_oth2 (by omega)]; exact h.pro j hj
  · rw [jup_self, jup_self]
  · rw [jup_oth2 (by decide), jup_oth2 (by omega)]; exact h.day he
  · rw [jup_oth (by omega), jup_oth2 (by omega)]; exact h.hur he j hj
theorem TR.w_day (h : TR e p a r c m) (ha : 14 ≤ a) (hp : p ≤ 5) (v : Int32) : TR e p a r (jup c a 7 v) (jup m 166 (r + 1) v) := by
  refine ⟨fun j hj => ?_, fun j hj => ?_, fun j hj => ?_, fun j hj => ?_, fun he => ⟨?_, ?_, fun j hj => ?_⟩⟩
  · rw [jup_oth (by omega), jup_oth2 (by omega)]; exact h.thi j hj
  · rw [jup_oth (by omega), jup_oth2 (by omega)]; exact h.rou j hj
  · rw [jup_oth (by omega), jup_oth (by omega), jup_oth2 (by omega), jup_oth2 (by omega)]; exact h.fel j hj
  · rw [jup_oth (by omega), jup_oth2 (by omega)]; exact h.pro j hj
  · rw [jup_oth2 (by decide), jup_oth2 (by omega)]; exact h.sto he
  · rw [jup_self, jup_self]
  · rw [jup_oth (by omega), jup_oth2 (by omega)]; exact h.hur he j hj
theorem TR.oth {m' : jMem} (h : TR e p a r c m) (hp : p ≤ 5) (hm : ∀ j, j < 52 → m' 166 (r + j) = m 166 (r + j)) : TR e p a r c m' := h.move hp (fun _ _ _ => rfl) (fun _ _ => rfl) hm
theorem TR.dec (h : TR e p a r c m) (hp : p ≤ 5) (ha : 14 ≤ a) {k j : Nat} (hk : k < p) (hj : j < p) : TR e p a r (tDec a k j c) (rDec r k j m) := by
  unfold tDec rDec
  rw [h.st hj, h.thi j hj, h.held (by omega) (by omega)]
  by_cases z : rSt m r j = true
  · rw [if_pos z, if_pos z]
    exact h.w_thi ha hp (by omega) _
  · rw [if_neg z, if_neg z]
    refine h.oth hp (fun y _ => ?_)
    rw [jup_at]
    by_cases q : (166 : Nat) = 166 ∧ r + y = r + 2 + j
    · rw [if_pos q, q.2, Int32.sub_zero]
    · rw [if_neg q]
theorem TR.decs (h : TR e p a r c m) (hp : p ≤ 5) (ha : 14 ≤ a) {k : Nat} (hk : k < p) : TR e p a r (it (tDec a k) p 0 c) (it (rDec r k) p 0 m) :=
  it_rel (f := tDec a k) (g := rDec r k) (p := p) (fun _ s t => TR e p a r s t) (fun i s t hi hr => TR.dec hr hp ha hk hi) p 0 c m (by omega) h
/-- one falls: X says which of DOWN, FELL is written -/
theorem TR.fall1 (h : TR e p a r c m) (hP : PR p c m) (ha : 14 ≤ a) {w X : Nat} (hw : w < p) (hX : X = 7 ∨ X = 22) {way v : Int32} {b : Bool} (hb : e → (way = 1 ↔ b = true) ∧ (way = 2 ↔ b = false)) (hF : FR (c 10 w) (c (a + 4) w + 1) (if X = 7 then 1 else m 166 (r + 7 + w)) (if X = 7 then m 166 (r + 22 + w) else 1)) :
    TR e p a r (jup (tFA c a w way) (a + 1) w v) (jup (jup (rF2 m r w b) 166 (r + X + w) 1) 166 (r + 2 + w) v) := by
  have hp := hP.p5
  refine ⟨fun j hj => ?_, fun j hj => ?_, fun j hj => ?_, fun j hj => ?_, fun he => ⟨?_, ?_, fun j hj => ?_⟩⟩
  · by_cases z : j = w
    · rw [z, jup_self, jup_self]
    · rw [jup_oth2 z, jup_oth2 (by omega), jup_oth2 (by omega), fa_thi, f2_any (by omega) (by omega) (by omega)]; exact h.thi j hj
  · rw [jup_oth (by omega), jup_oth2 (by omega), jup_oth2 (by omega), fa_rou, f2_rou (by omega) (by omega), h.rou j hj]
  · have d7 : jup (jup (rF2 m r w b) 166 (r + X + w) 1) 166 (r + 2 + w) v 166 (r + 7 + j) = if X = 7 ∧ j = w then 1 else m 166 (r + 7 + j) := by
      rw [jup_oth2 (by omega)]
      by_cases z : X = 7 ∧ j = w
      · rw [if_pos z, z.1, z.2, jup_self]
      · rw [if_neg z, jup_oth2 (by omega), f2_any (by omega) (by omega) (by omega)]
    have d22 : jup (jup (rF2 m r w b) 166 (r + X + w) 1) 166 (r + 2 + w) v 166 (r + 22 + j) = if X = 22 ∧ j = w then 1 else m 166 (r + 22 + j) := by
      rw [jup_oth2 (by omega)]
      by_cases z : X = 22 ∧ j = w
      · rw [if_pos z, z.1, z.2, jup_self]
      · rw [if_neg z, jup_oth2 (by omega), f2_anyP hP.mp hp (by omega) (by omega) (by omega) (by omega)]
    rw [d7, d22, jup_oth (by omega), jup_oth (by omega), fa_fr (by omega), fa_fel]
    by_cases z : j = w
    · subst z
      rw [if_pos rfl]
      rcases hX with rfl | rfl
      · rw [if_pos rfl, if_pos rfl] at hF
        rw [if_pos ⟨rfl, rfl⟩, if_neg (by omega)]; exact hF
      · rw [if_neg (by decide), if_neg (by decide)] at hF
        rw [if_neg (by omega), if_pos ⟨rfl, rfl⟩]; exact hF
    · rw [if_neg z, if_neg (fun q => z q.2), if_neg (fun q => z q.2)]; exact h.fel j hj
  · rw [jup_oth (by omega), jup_oth2 (by omega), jup_oth2 (by omega), fa_fr (by omega), f2_any (by omega) (by omega) (by omega)]; exact h.pro j hj
  · rw [jup_oth (by omega), jup_oth2 (by omega), jup_oth2 (by omega), fa_sto ha, f2_sto (by omega), h.sto he, hP.lai w hw]
    by_cases z : b = true
    · rw [if_pos z, if_pos ((hb he).1.mpr z)]
    · rw [if_neg z, if_neg (fun q => z ((hb he).1.mp q))]
  · rw [jup_oth (by omega), jup_oth2 (by omega), jup_oth2 (by omega), fa_day, f2_any (by omega) (by omega) (by omega)]; exact h.day he
  · rw [jup_oth (by omega), jup_oth2 (by omega), jup_oth2 (by omega), fa_hur ha, f2_hur (by omega) (by omega), hP.cp, hP.mp, h.hur he j hj]
    by_cases z : b = false ∧ nI w + 1 < nI p
    · have z2 : way = 2 ∧ nI w + 1 < nI p := ⟨(hb he).2.mpr z.1, z.2⟩
      by_cases q : j = w + 1
      · rw [if_pos ⟨z2, q⟩, if_pos ⟨z, q⟩, h.hur he (w + 1) (by omega)]
      · rw [if_neg (fun y => q y.2), if_neg (fun y => q y.2)]
    · rw [if_neg (fun y => z ⟨(hb he).2.mp y.1.1, y.1.2⟩), if_neg (fun y => z y.1)]
end TRw
theorem PR.keep {p : Nat} {c c' m m' : jMem} (h : PR p c m) (hc : ∀ x y, x < 14 → c' x y = c x y) (hm : ∀ x y, x ≠ 166 → x < 170 → (x ≠ 165 ∨ y = 3) → m' x y = m x y) : PR p c' m' :=
  ⟨(hc _ _ (by decide)).trans h.cp, (hm _ _ (by decide) (by decide) (Or.inr rfl)).trans h.mp, h.p1, h.p5, fun k hk => by rw [hc _ _ (by decide), hm _ _ (by decide) (by decide) (Or.inl (by decide))]; exact h.kin k hk, fun k hk => by rw [hc _ _ (by decide), hm _ _ (by decide) (by decide) (Or.inl (by decide))]; exact h.lai k hk, fun k hk => by rw [hc _ _ (by decide), hm _ _ (by decide) (by decide) (Or.inl (by decide))]; exact h.lea k hk⟩
