/-! key, year -/
theorem tc_st {c : jMem} {a b k : Nat} (ha : tw a) (hb : tw b) (hab : a ≠ b) (hk : k < 5) : tSt (tCp c a b) a k = tSt c b k := by
  have := tw_ge ha
  unfold tSt
  rw [tc_in ha hb hab (Or.inl ⟨by omega, by omega, hk⟩), tc_out (by omega)]
theorem TR.cdB {e : Prop} {p a r : Nat} {c m : jMem} (h : TR e p a r c m) : tCD c a p = cdn (rSt m r) p := by
  unfold tCD cdn
  exact it_congr (p := p) (fun i s hi => by rw [h.st hi]) p 0 0 (by omega)
theorem far_n4 : (1000000 : Int32).toInt = 1000000 ∧ (-4 : Int32).toInt = -4 := by decide
/-- one more wall that falls in the trial town, inward -/
theorem trial_fall {p : Nat} {s t : jMem} {i : Nat} (hi : i < p) (t1 : TR True p 20 52 s t) (t2 : TI p 20 s) (t3 : PR p s t) (t4 : PI p s) (hst : tSt s 20 i = true) : ∃ m', rFl 52 p 6 true 0 t i = some m' ∧ TR True p 20 52 (tFall 20 p 6 s i 1) m' ∧ (∀ a b, a < 20 ∨ 25 < a → tFall 20 p 6 s i 1 a b = s a b) ∧ (∀ a b, a ≠ 166 → a ≠ 176 → a ≠ 177 → m' a b = t a b) ∧ (∀ b, b < 52 ∨ 104 ≤ b → m' 166 b = t 166 b) ∧ (∀ k, k < p → tSt (tFall 20 p 6 s i 1) 20 k = true → tSt s 20 k = true) := by
  have hS := q_S5 p 20 s
  obtain ⟨⟨g1, g2⟩, m', g3, g4, g5⟩ := fall_sim (e := True) (a := 20) (r := 52) (by omega) t3.p5 6 s t i 1 true 0 t3 t1 (t2.mi t4) hi hst (by omega) (fun _ => ⟨⟨fun _ => rfl, fun _ => rfl⟩, ⟨fun y => absurd y (by decide), fun y => absurd y (by decide)⟩⟩)
  exact ⟨m', g3, g4, fun a b ha => g1.1 a b (by omega), fun a b h1 h2 h3 => rFl_lo h1 6 true 0 t i m' (Or.inl ⟨h2, h3⟩) g3, fun b hb => g5 b (by omega), fun k hk z => g1.st (by omega) hk z⟩
section Ky
variable {p x u q n tl : Nat} {c m : jMem}
theorem s_key (h : Rel p x u q n tl c m) (w : Int32) : ∃ vm m', rKey m w p = some (vm, m') ∧ OKc c m (cKey c p w).1 (cKey c p w).2 vm m' := by
  have hp := h.1.p5
  unfold cKey rKey
  rw [g_in (l := 0) (h := 1) (by decide) (by decide)]
  cases z : xOut w 0 1 with
  | true => rw [b_t, b_nt]; exact ⟨_, _, rfl, OKc.same h rfl⟩
  | false =>
    rw [b_f, b_nf]
    obtain ⟨t, e1, r1, r2, r3, r4, r5, r6⟩ := it_itO (f := cKeyF p) (g := rKeyF p) (p := p) (fun i s t => s.1.1 = t.1 ∧ s.1.2 = t.2.1 ∧ (s.1.1 = -4 → s.1.2 = -4) ∧ (∀ a b, a < 20 ∨ 25 < a → s.2 a b = c a b) ∧ (∀ a b, a ≠ 166 → a ≠ 176 → a ≠ 177 → t.2.2 a b = m a b) ∧ (∀ b, b < 52 ∨ 104 ≤ b → t.2.2 166 b = m 166 b)) (fun i s t hi hr => by
      obtain ⟨r1, r2, r3, r4, r5, r6⟩ := hr
      have hR : Rel p x u q n tl s.2 t.2.2 := h.keep (fun a b ha => r4 a b (by unfold RC at ha; omega)) (fun a b hb => by
        unfold RM at hb
        by_cases v : a = 166
        · subst v; exact r6 b (by omega)
        · exact r5 a b v (by omega) (by omega))
      unfold cKeyF rKeyF
      have hst := hR.2.2.1.1.st hi
      rw [hst]
      by_cases y : rSt t.2.2 0 i = true
      · rw [if_pos y, if_pos y]
        obtain ⟨t1, t2, t3, t4, t5, t6, t7⟩ := try_sim hR
        obtain ⟨m', g1, g2, g3, g4, g5, g6⟩ := trial_fall hi t1 t2 t3 t4 (by rw [tc_st twn_20 twn_14 (by decide) (by omega), hst]; exact y)
        rw [g1]
        have hc2 : ∀ a b, a < 20 ∨ 25 < a → cOthM s.2 p i a b = s.2 a b := fun a b ha => (g3 a b ha).trans (t5 a b ha)
        have hm2 : ∀ a b, a ≠ 166 → a ≠ 176 → a ≠ 177 → m' a b = t.2.2 a b := fun a b h1 h2 h3 => (g4 a b h1 h2 h3).trans (t6 a b h1)
        have hm3 : ∀ b, b < 52 ∨ 104 ≤ b → m' 166 b = t.2.2 166 b := fun b hb => (g5 b hb).trans (t7 b hb)
        have hR2 : TR True p 14 0 (cOthM s.2 p i) m' := hR.2.2.1.1.move hp (fun k j v => hc2 _ _ (by have := tfld_6 v; omega)) (fun j _ => hc2 _ _ (by omega)) (fun j hj => hm3 _ (by omega))
        have hk := key_ones (rSt m' 0) (rSt m' 52) hp hi (fun k hk v => by
          rw [← g2.st hk] at v
          have := g6 k hk v
          rw [tc_st twn_20 twn_14 (by decide) (by omega)] at this
          rw [← hR2.st hk]
          have e : tSt (cOthM s.2 p i) 14 k = tSt s.2 14 k := by unfold tSt; rw [hc2 _ _ (by omega), hc2 _ _ (by omega)]
          rw [e]; exact this) (by
            rw [← hR2.st hi]
            have e : tSt (cOthM s.2 p i) 14 i = tSt s.2 14 i := by unfold tSt; rw [hc2 _ _ (by omega), hc2 _ _ (by omega)]
            rw [e, hst]; exact y)
        have ho : cOth s.2 p i = rKt m' p i := by
          unfold cOth
          rw [hR2.cdB, show tCD (cOthM s.2 p i) 20 p = cdn (rSt m' 52) p from g2.cdB, show tSt (cOthM s.2 p i) 20 i = rSt m' 52 i from g2.st hi]
          exact hk.1
        have h0 : 0 ≤ (rKt m' p i).toInt := hk.2
        rw [ho]
        have hni : ¬ nI i = -4 := fun v => by
          have e : (nI i).toInt = -4 := by rw [v]; decide
          rw [nI_toInt (by omega)] at e
          omega
        refine ⟨_, rfl, ?_⟩
        have hf := fun a b (ha : a < 20 ∨ 25 < a) => (hc2 a b ha).trans (r4 a b ha)
        have hg := fun a b h1 h2 h3 => (hm2 a b h1 h2 h3).trans (r5 a b h1 h2 h3)
        have hk2 := fun b hb => (hm3 b hb).trans (r6 b hb)
        by_cases v : t.2.1 < rKt m' p i
        · rw [if_pos (Or.inr (by rw [r2]; exact v))]
          dsimp only
          rw [if_pos v, if_pos v]
          exact ⟨rfl, rfl, fun y => absurd y hni, hf, hg, hk2⟩
        · have hn : ¬ (s.1.1 = -4 ∨ s.1.2 < rKt m' p i) := fun y => by
            rcases y with y | y
            · have e4 := r3 y
              rw [r2] at e4
              rw [e4, i_lt, far_n4.2] at v
              omega
            · rw [r2] at y; exact v y
          rw [if_neg hn]
          dsimp only
          rw [if_neg v, if_neg v]
          exact ⟨r1, r2, r3, hf, hg, hk2⟩
      · rw [if_neg y, if_neg y]
        exact ⟨_, rfl, r1, r2, r3, r4, r5, r6⟩) p 0 ((-4, -4), c) (-4, -4, m) (by omega) ⟨rfl, rfl, fun _ => rfl, fun _ _ _ => rfl, fun _ _ _ _ _ => rfl, fun _ _ => rfl⟩
    rw [e1]
    refine ⟨_, _, rfl, OKc.asks h ?_ (fun a b ha => r4 a b (by omega)) (fun a b ha => ?_)⟩
    · dsimp only
      rw [r1, r2]
    · by_cases v : a = 166
      · subst v; exact r6 b (by omega)
      · exact r5 a b v (by omega) (by omega)
/-! year -/
theorem draw_sim {s t : jMem} (hp1 : 1 ≤ p) (t1 : TR True p 20 52 s t) (t2 : TI p 20 s) (t3 : PR p s t) (t4 : PI p s) (z k : Nat) : ∃ t', rYrD t p z k = some t' ∧ TR True p 20 52 (cDaM s p z k) t' ∧ TI p 20 (cDaM s p z k) ∧ (∀ a b, a < 20 ∨ 25 < a → cDaM s p z k a b = s a b) ∧ (∀ a b, a ≠ 166 → a ≠ 176 → a ≠ 177 → t' a b = t a b) ∧ (∀ b, b < 52 ∨ 104 ≤ b → t' 166 b = t 166 b) := by
  have hw : cDr z k / 8 % p < p := Nat.mod_lt _ (by omega)
  unfold cDaM rYrD
  generalize cDr z k / 8 % p = w at hw ⊢
  generalize cDr z k = d
  rw [t1.st hw]
  have e3 := t1.rou w hw
  rw [show 52 + 12 + w = 64 + w by omega] at e3
  by_cases y : rSt t 52 w = true
  · rw [if_pos y, if_pos y]
    have hst : tSt s 20 w = true := by rw [t1.st hw]; exact y
    by_cases y3 : d % 8 ≤ 3
    · rw [if_pos y3]
      by_cases y7 : t 166 (64 + w) < 7
      · rw [if_pos ⟨by omega, y7⟩]
        obtain ⟨s1, s2, s3, s4⟩ := round_sim (a := 20) (r := 52) (by omega) t3 t1 t2 hw
        exact ⟨_, rfl, s1, s2, fun a b ha => s4 a b (by omega), fun a b ha _ _ => by unfold rRo; exact jup_oth ha, fun b hb => s3 b (by omega)⟩
      · have e7 : s (20 + 2) w = 7 := by
          have b1 := t2.2.2.2.1 w hw
          rw [← e3, i_lt, show (7 : Int32).toInt = 7 by decide] at y7
          exact Int32.toInt_inj.mp (by rw [show (7 : Int32).toInt = 7 by decide]; omega)
        rw [if_neg (fun v => y7 v.2), if_neg (by omega), go7 e7]
        exact ⟨_, rfl, t1, t2, fun _ _ _ => rfl, fun _ _ _ _ _ => rfl, fun _ _ => rfl⟩
    · rw [if_neg y3, if_neg (fun v => y3 (by omega))]
      by_cases y4 : d % 8 = 4
      · rw [if_pos y4, if_pos y4]
        have hn : 1 ≤ (nI (d / 64 % 9) + 1).toInt ∧ (nI (d / 64 % 9) + 1).toInt ≤ 9 := by
          have : d / 64 % 9 < 9 := Nat.mod_lt _ (by decide)
          rw [nI_1, nI_toInt (by omega)]
          omega
        obtain ⟨m', b1, b2, b3, b4, b5, -⟩ := blow_sim (a := 20) (r := 52) (by omega) t3 t4 t1 t2 hw hst hn
        rw [b1]
        exact ⟨m', rfl, b2, b3, fun a b ha => b5 a b (by omega), fun a b h1 h2 h3 => rBl_lo h1 h2 h3 b1, fun b hb => b4 b (by omega)⟩
      · rw [if_neg y4, if_neg y4]
        exact ⟨_, rfl, t1, t2, fun _ _ _ => rfl, fun _ _ _ _ _ => rfl, fun _ _ => rfl⟩
  · rw [if_neg y, if_neg y]
    exact ⟨_, rfl, t1, t2, fun _ _ _ => rfl, fun _ _ _ _ _ => rfl, fun _ _ => rfl⟩
theorem g_3 {a b d : Bool} : ((!a) = true ∧ (!b) = true ∧ (!d) = true) ↔ ¬ (a = true ∨ b = true ∨ d = true) := by cases a <;> cases b <;> cases d <;> decide
theorem s_year (h : Rel p x u q n tl c m) (z k what : Int32) : ∃ vm m', rYear m p z k what = some (vm, m') ∧ OKc c m (cYear c p z k what).1 (cYear c p z k what).2 vm m' := by
  have hp := h.1.p5
  unfold cYear rYear
  rw [g_in (l := 0) (h := 9999) (by decide) (by decide), g_in (l := 1) (h := 60) (by decide) (by decide), g_in (l := 0) (h := 2) (by decide) (by decide)]
  by_cases g : xOut z 0 9999 = true ∨ xOut k 1 60 = true ∨ xOut what 0 2 = true
  · rw [if_pos g, if_neg (fun y => g_3.mp y g)]; exact ⟨_, _, rfl, OKc.same h rfl⟩
  · rw [if_neg g, if_pos (g_3.mpr g)]
    unfold cYrM
    generalize z.toNatClampNeg = Z
    generalize k.toNatClampNeg = N
    obtain ⟨t1, t2, t3, t4, t5, t6, t7⟩ := try_sim h
    obtain ⟨t, e1, r1, r2, r3, r4, r5, r6, r7⟩ := it_itO (f := cYrF p Z) (g := rYrF p Z) (p := N) (fun i s t => TR True p 20 52 s t ∧ TI p 20 s ∧ PR p s t ∧ PI p s ∧ (∀ a b, a < 20 ∨ 25 < a → s a b = c a b) ∧ (∀ a b, a ≠ 166 → a ≠ 176 → a ≠ 177 → t a b = m a b) ∧ (∀ b, b < 52 ∨ 104 ≤ b → t 166 b = m 166 b)) (fun i s t hi hr => by
      obtain ⟨r1, r2, r3, r4, r5, r6, r7⟩ := hr
      obtain ⟨t', d1, d2, d3, d4, d5, d6⟩ := draw_sim h.1.p1 r1 r2 r3 r4 Z i
      have hP' : PR p (cDaM s p Z i) t' := r3.keep (fun a b ha => d4 a b (by omega)) (fun a b ha h2 _ => d5 a b ha (by omega) (by omega))
      obtain ⟨s1, s2, s3, s4⟩ := day_sim (a := 20) (r := 52) (by omega) hP' d2 d3
      unfold rYrF cYrF
      rw [d1]
      have hc : ∀ a b, a < 20 ∨ 25 < a → tDay (cDaM s p Z i) 20 p a b = s a b := fun a b ha => (s4 a b (by omega)).trans (d4 a b ha)
      have hm : ∀ a b, a ≠ 166 → a ≠ 176 → a ≠ 177 → rPs t' 52 p a b = t a b := fun a b h1 h2 h3 => (rPs_lo _ _ _ h1).trans (d5 a b h1 h2 h3)
      exact ⟨_, rfl, s1, s2, r3.keep (fun a b ha => hc a b (by omega)) (fun a b ha h2 _ => hm a b ha (by omega) (by omega)), r4.keep (fun y => hc _ _ (by omega)), fun a b ha => (hc a b ha).trans (r5 a b ha), fun a b h1 h2 h3 => (hm a b h1 h2 h3).trans (r6 a b h1 h2 h3), fun b hb => ((s3 b (by omega)).trans (d6 b hb)).trans (r7 b hb)⟩) N 0 (tCp c 20 14) (rCopy m 0 52) (by omega) ⟨t1, t2, t3, t4, t5, fun a b h1 _ _ => t6 a b h1, t7⟩
    rw [e1]
    refine ⟨_, _, rfl, OKc.asks h ?_ (fun a b ha => r5 a b (by omega)) (fun a b ha => ?_)⟩
    · have a1 := r1.cd hp
      have a2 : it (cYrF p Z) N 0 (tCp c 20 14) 20 6 = t 166 52 := r1.sto trivial
      have a3 := r1.ch
      rw [a1, a2, a3]
    · by_cases v : a = 166
      · subst v; exact r7 b (by omega)
      · exact r6 a b v (by omega) (by omega)
end Ky
