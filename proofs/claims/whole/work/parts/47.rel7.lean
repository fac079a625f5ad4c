/-! A BLAST, A DAY, A ROUNDING -/
theorem blow_sim {e : Prop} {p a r : Nat} (ha : 14 ≤ a) {c m : jMem} (hP : PR p c m) (hI : PI p c) (hT : TR e p a r c m) (hi : TI p a c) {w : Nat} (hw : w < p) (hst : tSt c a w = true) {n : Int32} (hn : 1 ≤ n.toInt ∧ n.toInt ≤ 9) :
    ∃ m', rBl m r w n p = some (tBlR c a w n, m') ∧ TR e p a r (tBlM c a p w n) m' ∧ TI p a (tBlM c a p w n) ∧ (∀ j, j < r ∨ r + 52 ≤ j → m' 166 j = m 166 j) ∧ (∀ x y, x < a ∨ a + 4 < x → tBlM c a p w n x y = c x y) ∧
      (tWF c a w n = true → FQ p a c (tBlM c a p w n) (fun k => tSt c a k = true ∧ q_th c a k ≤ 0 ∧ k ≠ w) ∧ q_fe c a w + 1 ≤ q_fe (tBlM c a p w n) a w) := by
  have hp := hP.p5
  unfold tBlM tBlR rBl
  rw [← hT.wf hw n]
  by_cases z : tWF c a w n = true
  · have hS := q_S5 p a c
    have hl := hT.lean hP hw
    obtain ⟨⟨g1, g2⟩, m', g3, g4, g5⟩ := fall_sim (e := e) (r := r) ha hp 6 c m w (tWay c a w) (decide (m 169 w ≤ m 166 (r + 12 + w))) 0 hP hT (hi.mi hI) hw hst (by omega) (fun _ => by
      unfold tWay
      rw [hl]
      cases decide (m 169 w ≤ m 166 (r + 12 + w)) <;> decide)
    rw [if_pos z, if_pos z, if_pos z, g3]
    refine ⟨m', ?_, g4, hi.fall ha g1, g5, g1.1, fun _ => ⟨g1, g2⟩⟩
    unfold tWay
    rw [hl]
    show some ((if m 169 w ≤ m 166 (r + 12 + w) then (1 : Int32) else 2), m') = _
    by_cases y : m 169 w ≤ m 166 (r + 12 + w)
    · rw [if_pos y, if_pos (decide_eq_true y)]
    · rw [if_neg y, if_neg (fun q => y (of_decide_eq_true q))]
  · rw [if_neg z, if_neg z, if_neg z]
    have h1 := (hi.2.1 w hw).1 hst
    unfold q_th at h1
    have hv : 1 ≤ (if c (a + 1) w - n < 1 then 1 else c (a + 1) w - n).toInt ∧ (if c (a + 1) w - n < 1 then 1 else c (a + 1) w - n).toInt ≤ 99 := by
      have es : (c (a + 1) w - n).toInt = (c (a + 1) w).toInt - n.toInt := i_sub (by omega) (by omega)
      by_cases y : c (a + 1) w - n < 1
      · rw [if_pos y, i_n1]; omega
      · rw [if_neg y, es]
        rw [i_lt, es, i_n1] at y
        omega
    refine ⟨_, rfl, ?_, ?_, fun j hj => ?_, fun x y hx => ?_, fun q => absurd q z⟩
    · rw [← hT.thi w hw]
      exact (hT.w_thi ha hp (by omega) _).w_rou ha hp (by omega) _
    · refine TI.w_rou ha (TI.w_thi ha hi (fun _ => ⟨fun _ => hv, fun q => ?_⟩)) (by rw [i_n0]; omega)
      rw [hst] at q; cases q
    · rw [jup_oth2 (by omega), jup_oth2 (by omega)]
    · rw [jup_oth (by omega), jup_oth (by omega)]
theorem round_sim {e : Prop} {p a r : Nat} (ha : 14 ≤ a) {c m : jMem} (hP : PR p c m) (hT : TR e p a r c m) (hi : TI p a c) {w : Nat} (hw : w < p) :
    TR e p a r (tGo c a w) (rRo m r w) ∧ TI p a (tGo c a w) ∧ (∀ j, j < r ∨ r + 52 ≤ j → rRo m r w 166 j = m 166 j) ∧ (∀ x y, x < a ∨ a + 4 < x → tGo c a w x y = c x y) := by
  have hp := hP.p5
  have h1 := hi.2.2.2.1 w hw
  have hv : 0 ≤ (if 7 < c (a + 2) w + (if c 10 w = 2 then 2 else 1) then 7 else c (a + 2) w + (if c 10 w = 2 then 2 else 1)).toInt ∧ (if 7 < c (a + 2) w + (if c 10 w = 2 then 2 else 1) then 7 else c (a + 2) w + (if c 10 w = 2 then 2 else 1)).toInt ≤ 7 := by
    have e7 : (7 : Int32).toInt = 7 := by decide
    have e2 : 1 ≤ (if c 10 w = 2 then (2 : Int32) else 1).toInt ∧ (if c 10 w = 2 then (2 : Int32) else 1).toInt ≤ 2 := by
      split
      · rw [i_n2]; omega
      · rw [i_n1]; omega
    generalize (if c 10 w = 2 then (2 : Int32) else 1) = d at e2 ⊢
    have es : (c (a + 2) w + d).toInt = (c (a + 2) w).toInt + d.toInt := i_add (by omega) (by omega)
    by_cases y : 7 < c (a + 2) w + d
    · rw [if_pos y, e7]; omega
    · rw [if_neg y, es]
      rw [i_lt, es, e7] at y
      omega
  refine ⟨?_, TI.w_rou ha hi hv, fun j hj => ?_, fun x y hx => ?_⟩
  · unfold tGo rRo
    rw [hP.kin w hw, hT.rou w hw]
    exact hT.w_rou ha hp (by omega) _
  · unfold rRo; exact jup_oth2 (by omega)
  · unfold tGo; exact jup_oth (by omega)
theorem day1_sim {p a r : Nat} (ha : 14 ≤ a) {c m : jMem} (hP : PR p c m) (hT : TR True p a r c m) (hi : TI p a c) {k : Nat} (hk : k < p) : TR True p a r (tDayL a k c) (rPsF r k m) ∧ TI p a (tDayL a k c) := by
  have hp := hP.p5
  have e99 : (99 : Int32).toInt = 99 := by decide
  have h1 := hi.th hk
  unfold q_th at h1
  unfold tDayL rPsF
  rw [← hP.kin k hk, ← hT.st hk, ← hT.thi k hk]
  by_cases z : c 10 k = 1 ∧ tSt c a k = true
  · rw [if_pos z]
    have es : (c (a + 1) k + 1).toInt = (c (a + 1) k).toInt + 1 := by rw [i_add (by rw [i_n1]; omega) (by rw [i_n1]; omega), i_n1]
    have h2 := (hi.2.1 k hk).1 z.2
    unfold q_th at h2
    by_cases q : c (a + 1) k < 99
    · have q2 : ¬ 99 < c (a + 1) k + 1 := by
        rw [i_lt, e99] at q
        rw [i_lt, e99, es]; omega
      rw [if_neg q2, if_pos ⟨z.1, z.2, q⟩]
      refine ⟨hT.w_thi ha hp (by omega) _, TI.w_thi ha hi (fun _ => ⟨fun _ => ?_, fun y => ?_⟩)⟩
      · rw [i_lt, e99] at q
        rw [es]; omega
      · rw [z.2] at y; cases y
    · have q3 : c (a + 1) k = 99 := by
        rw [i_lt, e99] at q
        exact Int32.toInt_inj.mp (by rw [e99]; omega)
      rw [q3, if_pos (by decide), if_neg (fun w => absurd w.2.2 (by decide)), Int32.add_zero]
      refine ⟨hT.w_thi ha hp (by omega) _, TI.w_thi ha hi (fun _ => ⟨fun _ => ?_, fun y => ?_⟩)⟩
      · rw [e99]; omega
      · rw [z.2] at y; cases y
  · rw [if_neg z, if_neg (fun w => z ⟨w.1, w.2.1⟩), Int32.add_zero]
    refine ⟨hT.oth hp (fun y _ => ?_), hi⟩
    rw [jup_at]
    by_cases q : (166 : Nat) = 166 ∧ r + y = r + 2 + k
    · rw [if_pos q, q.2]; exact hT.thi k hk
    · rw [if_neg q]
theorem day_sim {p a r : Nat} (ha : 14 ≤ a) {c m : jMem} (hP : PR p c m) (hT : TR True p a r c m) (hi : TI p a c) :
    TR True p a r (tDay c a p) (rPs m r p) ∧ TI p a (tDay c a p) ∧ (∀ j, j < r ∨ r + 52 ≤ j → rPs m r p 166 j = m 166 j) ∧ (∀ x y, x < a ∨ a + 4 < x → tDay c a p x y = c x y) := by
  have hp := hP.p5
  obtain ⟨g1, g2, g3, g4, g5⟩ := it_rel (f := tDayL a) (g := rPsF r) (p := p) (fun _ s t => TR True p a r s t ∧ TI p a s ∧ PR p s t ∧ (∀ j, j < r ∨ r + 52 ≤ j → t 166 j = m 166 j) ∧ (∀ x y, x < a ∨ a + 4 < x → s x y = c x y)) (fun i s t hk hr => by
    obtain ⟨g1, g2, g3, g4, g5⟩ := hr
    have d := day1_sim ha g3 g1 g2 hk
    have f1 : ∀ x y, x < a ∨ a + 4 < x → tDayL a i s x y = s x y := fun x y hx => by
      unfold tDayL
      split
      · exact jup_oth (by omega)
      · rfl
    exact ⟨d.1, d.2, g3.keep (fun x y hx => f1 x y (by omega)) (fun x y hx _ _ => jup_oth hx), fun j hj => (jup_oth2 (by omega)).trans (g4 j hj), fun x y hx => (f1 x y hx).trans (g5 x y hx)⟩) p 0 c m (by omega) ⟨hT, hi, hP, fun _ _ => rfl, fun _ _ _ => rfl⟩
  unfold tDay rPs
  rw [g1.day trivial]
  exact ⟨g1.w_day ha hp _, TI.w_own ha g2 (fun z => absurd z (by decide)), fun j hj => (jup_oth2 (by omega)).trans (g4 j hj), fun x y hx => (jup_oth (by omega)).trans (g5 x y hx)⟩
