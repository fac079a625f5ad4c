/-! the whole fall: class and reference -/
theorem f2_row {m : jMem} {r k : Nat} {b : Bool} (hk : k < 5) {j : Nat} (hj : j < r ∨ r + 52 ≤ j) : rF2 m r k b 166 j = m 166 j := f2_any (by omega) (by omega) (by omega)
theorem fall_sim {e : Prop} {p a r : Nat} (ha : 14 ≤ a) (hp : p ≤ 5) : ∀ (f : Nat) (c m : jMem) (w : Nat) (way : Int32) (b : Bool) (dp : Nat), PR p c m → TR e p a r c m → MI p a c → w < p → tSt c a w = true → q_S p a c ≤ f → (e → (way = 1 ↔ b = true) ∧ (way = 2 ↔ b = false)) →
    (FQ p a c (tFall a p f c w way) (fun k => tSt c a k = true ∧ q_th c a k ≤ 0 ∧ k ≠ w) ∧ q_fe c a w + 1 ≤ q_fe (tFall a p f c w way) a w) ∧ ∃ m', rFl r p f b dp m w = some m' ∧ TR e p a r (tFall a p f c w way) m' ∧ ∀ j, j < r ∨ r + 52 ≤ j → m' 166 j = m 166 j
  | 0, c, m, w, way, b, dp, hP, hT, hM, hw, hst, hS, hb => by
    have := q_S_pos hp hw hst
    omega
  | f + 1, c, m, w, way, b, dp, hP, hT, hM, hw, hst, hS, hb => by
    have hF := (hT.fel w hw).fall hst
    have e167 : rF2 m r w b 167 w = c 10 w := by rw [rF2_lo _ _ _ _ (by decide)]; exact (hP.kin w hw).symm
    have e22 : rF2 m r w b 166 (r + 22 + w) = m 166 (r + 22 + w) := f2_any (by omega) (by omega) (by omega)
    have ez : tSt (tFA c a w way) a w = decide (c 10 w = 3 ∧ m 166 (r + 22 + w) = 0) := by
      rw [← hF.1]
      unfold tSt
      rw [fa_fel, if_pos rfl, fa_fr (by omega)]
    rw [tFall, rFl]
    by_cases z : c 10 w = 3 ∧ m 166 (r + 22 + w) = 0
    · have z1 : tSt (tFA c a w way) a w = true := by rw [ez]; exact decide_eq_true z
      have hR : rFell m r w b p = (false, jup (jup (rF2 m r w b) 166 (r + 22 + w) 1) 166 (r + 2 + w) (c 11 w / 2 + 1)) := by
        unfold rFell rF3
        rw [if_pos ⟨e167.trans z.1, e22.trans z.2⟩, jup_oth (by decide), rF2_lo _ _ _ _ (by decide), hP.lai w hw]
      have e11 : tFA c a w way 11 w = c 11 w := fa_fr (by omega)
      have hl := hM.2.2.2 w hw
      have hh := lay_half hl.1 hl.2
      rw [if_pos z1, hR, if_neg (fun q => Bool.false_ne_true q), e11]
      refine ⟨fq_again ha hp hM hw hst z1 ⟨hh.1, by omega⟩, _, rfl, ?_, fun j hj => ?_⟩
      · refine hT.fall1 hP ha hw (X := 22) (Or.inr rfl) hb ?_
        rw [if_neg (by decide), if_neg (by decide)]
        exact hF.2.1 z
      · show jup (jup (rF2 m r w b) 166 (r + 22 + w) 1) 166 (r + 2 + w) (c 11 w / 2 + 1) 166 j = m 166 j
        rw [jup_oth2 (by omega), jup_oth2 (by omega), f2_row (by omega) hj]
    · have z1 : tSt (tFA c a w way) a w = false := by rw [ez]; exact decide_eq_false z
      have hR : rFell m r w b p = (true, it (rDec r w) p 0 (jup (jup (rF2 m r w b) 166 (r + 7 + w) 1) 166 (r + 2 + w) 0)) := by
        unfold rFell rF3
        rw [if_neg (fun q => z ⟨e167.symm.trans q.1, e22.symm.trans q.2⟩)]
      rw [z1, if_neg (by decide), hR, if_pos rfl]
      have hQ := fq_down ha hp hM hw hst z1
      have hT1 : TR e p a r (it (tDec a w) p 0 (jup (tFA c a w way) (a + 1) w 0)) (it (rDec r w) p 0 (jup (jup (rF2 m r w b) 166 (r + 7 + w) 1) 166 (r + 2 + w) 0)) := by
        refine TR.decs (hT.fall1 hP ha hw (X := 7) (Or.inl rfl) hb ?_) hp ha hw
        rw [if_pos rfl, if_pos rfl]
        exact hF.2.2 z
      have hrow : ∀ j, j < r ∨ r + 52 ≤ j → it (rDec r w) p 0 (jup (jup (rF2 m r w b) 166 (r + 7 + w) 1) 166 (r + 2 + w) 0) 166 j = m 166 j := fun j hj => by
        rw [rs_row (p := p) (fun i hi => by omega) p 0 _ (by omega), jup_oth2 (by omega), jup_oth2 (by omega), f2_row (by omega) hj]
      have hlo : ∀ x y, x ≠ 166 → it (rDec r w) p 0 (jup (jup (rF2 m r w b) 166 (r + 7 + w) 1) 166 (r + 2 + w) 0) x y = m x y := fun x y hx => by
        rw [it_lo (fun i m => rDec_lo r w i m hx), jup_oth hx, jup_oth hx, rF2_lo _ _ _ _ hx]
      generalize it (tDec a w) p 0 (jup (tFA c a w way) (a + 1) w 0) = c1 at hQ hT1 ⊢
      generalize it (rDec r w) p 0 (jup (jup (rF2 m r w b) 166 (r + 7 + w) 1) 166 (r + 2 + w) 0) = m1 at hT1 hrow hlo ⊢
      have hbase : FQ p a c c1 (fun k => (tSt c a k = true ∧ q_th c a k ≤ 0 ∧ k ≠ w) ∨ (0 ≤ k ∧ 0 < tHeld c a w k)) := hQ.1.mono (fun k hk q1 q2 => (hQ.1.2.2.2.2.1 k hk q1 q2).imp id (fun q => ⟨Nat.zero_le _, q⟩))
      have hP1 : PR p c1 (jup (jup m1 176 dp (nI w)) 177 dp 0) := hP.keep (fun x y hx => hQ.1.1 x y (by omega)) (fun x y hx h2 _ => by rw [jup_oth (by omega), jup_oth (by omega), hlo x y hx])
      obtain ⟨m', e1, hA, hB, hC, hD, hE, hG⟩ := it_itO (f := tPull a p f w) (g := rStep r (rFl r p f true) dp w) (p := p) (fun i s t => FQ p a c s (fun k => (tSt c a k = true ∧ q_th c a k ≤ 0 ∧ k ≠ w) ∨ (i ≤ k ∧ 0 < tHeld c a w k)) ∧ tSt s a w = false ∧ q_fe c a w + 1 ≤ q_fe s a w ∧ PR p s t ∧ TR e p a r s t ∧ ∀ j, j < r ∨ r + 52 ≤ j → t 166 j = m 166 j) (fun i s t hi hr => by
        obtain ⟨hA, hB, hC, hD, hE, hG⟩ := hr
        have hE1 : TR e p a r s (jup t 177 dp (nI (i + 1))) := hE.oth hp (fun j _ => jup_oth (by decide))
        have hD1 : PR p s (jup t 177 dp (nI (i + 1))) := hD.keep (fun _ _ _ => rfl) (fun x y _ h2 _ => jup_oth (by omega))
        have hG1 : ∀ j, j < r ∨ r + 52 ≤ j → jup t 177 dp (nI (i + 1)) 166 j = m 166 j := fun j hj => (jup_oth (by decide)).trans (hG j hj)
        have hH : tHeld s a w i = tHeld c a w i := hA.1 _ _ (by omega)
        unfold rStep tPull
        rw [← hE1.held (x := w) (y := i) (by omega) (by omega), ← hE1.st hi, ← hE1.thi i hi]
        by_cases q : 0 < tHeld s a w i ∧ tSt s a i = true ∧ s (a + 1) i ≤ 0
        · rw [if_pos q, if_pos q]
          have hlt : q_S p a s + 1 ≤ q_S p a c := q_S_lt hp (fun k hk y => hA.st ha hk y) hw hst hB
          obtain ⟨⟨g1, g2⟩, m2, g3, g4, g5⟩ := fall_sim ha hp f s (jup t 177 dp (nI (i + 1))) i 1 true (dp + 1) hD1 hE1 (hA.mi ha hM) hi q.2.1 (by omega) (fun _ => ⟨⟨fun _ => rfl, fun _ => rfl⟩, ⟨fun y => absurd y (by decide), fun y => absurd y (by decide)⟩⟩)
          refine ⟨m2, g3, (hA.trans ha g1).mono (fun k hk y1 y2 => ?_), ?_, ?_, ?_, g4, fun j hj => (g5 j hj).trans (hG1 j hj)⟩
          · obtain ⟨u1, u2, u3⟩ := g1.2.2.2.2.1 k hk y1 y2
            rcases hA.2.2.2.2.1 k hk u1 u2 with u | u
            · exact Or.inl u
            · exact Or.inr ⟨by omega, u.2⟩
          · cases y : tSt (tFall a p f s i 1) a w with
            | false => rfl
            | true => rw [g1.st ha hw y] at hB; cases hB
          · have := (g1.2.2.1 w hw).1
            omega
          · refine hD1.keep (fun x y hx => g1.1 x y (by omega)) (fun x y hx h2 _ => rFl_lo hx f true (dp + 1) _ i m2 (Or.inl ⟨by omega, by omega⟩) g3)
        · rw [if_neg q, if_neg q]
          refine ⟨_, rfl, hA.mono (fun k hk y1 y2 => ?_), hB, hC, hD1, hE1, hG1⟩
          rcases hA.2.2.2.2.1 k hk y1 y2 with u | u
          · exact Or.inl u
          · refine Or.inr ⟨?_, u.2⟩
            have : k ≠ i := fun v => by
              subst v
              refine q ⟨by rw [hH]; exact u.2, y1, ?_⟩
              rw [i_le, i_n0]; exact y2
            omega) p 0 c1 (jup (jup m1 176 dp (nI w)) 177 dp 0) (by omega) ⟨hbase, hQ.2.1, hQ.2.2, hP1, hT1.oth hp (fun j _ => by rw [jup_oth (by decide), jup_oth (by decide)]), fun j hj => by rw [jup_oth (by decide), jup_oth (by decide)]; exact hrow j hj⟩
      refine ⟨⟨hA.mono (fun k hk y1 y2 => ?_), hC⟩, m', e1, hE, hG⟩
      rcases hA.2.2.2.2.1 k hk y1 y2 with u | u
      · exact u
      · omega
