/-! THE PAST: pushed and popped -/
theorem sh_it {y : Nat} : ∀ (n i : Nat) (m : jMem), it rShF n i m 166 y = if 208 + i ≤ y ∧ y < 208 + i + n then m 166 (y + 52) else m 166 y
  | 0, i, m => by rw [it, if_neg (by omega)]
  | n + 1, i, m => by
    have e : ∀ z, rShF i m 166 z = if z = 208 + i then m 166 (208 + i + 52) else m 166 z := fun z => by
      unfold rShF
      by_cases w : z = 208 + i
      · rw [w, jup_self, if_pos rfl]
      · rw [jup_oth2 w, if_neg w]
    rw [it, sh_it n (i + 1), e, e]
    by_cases z : 208 + (i + 1) ≤ y ∧ y < 208 + (i + 1) + n
    · rw [if_pos z, if_neg (by omega), if_pos (by omega)]
    · rw [if_neg z]
      by_cases w : y = 208 + i
      · rw [if_pos w, if_pos (by omega), w]
      · rw [if_neg w, if_neg (by omega)]
theorem mi_row {m : jMem} {u : Nat} (hu : u ≤ 8) : (∀ i j, i < u → (u = 8 → i < 7) → j < 52 → rMinds m u 166 (208 + 52 * i + j) = m 166 (208 + 52 * (if u = 8 then i + 1 else i) + j)) ∧ (∀ j, j < 52 → rMinds m u 166 (208 + 52 * (if u = 8 then 7 else u) + j) = m 166 j) ∧ (∀ y, y < 208 ∨ 624 ≤ y → rMinds m u 166 y = m 166 y) ∧ rMinds m u 165 1 = nI (if u = 8 then 8 else u + 1) := by
  unfold rMinds rMd rMn1
  by_cases z : u = 8
  · subst z
    rw [if_pos rfl, if_pos rfl, if_pos rfl]
    refine ⟨fun i j h1 h2 h3 => ?_, fun j hj => ?_, fun y hy => ?_, ?_⟩
    · have := h2 rfl
      rw [if_pos rfl, jup_oth (by decide), cp_out (by omega) (by omega), jup_oth (by decide), sh_it, if_pos (by omega)]
      congr 1; omega
    · rw [jup_oth (by decide), cp_in (by omega) hj, jup_oth (by decide), sh_it, if_neg (by omega), Nat.zero_add]
    · rw [jup_oth (by decide), cp_out (by omega) (by omega), jup_oth (by decide), sh_it, if_neg (by omega)]
    · rw [jup_self]
  · rw [if_neg z, if_neg z, if_neg z]
    refine ⟨fun i j h1 h2 h3 => ?_, fun j hj => ?_, fun y hy => ?_, ?_⟩
    · rw [if_neg z, jup_oth (by decide), cp_out (by omega) (by omega)]
    · rw [jup_oth (by decide), cp_in (by omega) hj, Nat.zero_add]
    · rw [jup_oth (by decide), cp_out (by omega) (by omega)]
    · rw [jup_self]
theorem push_sim {p x u q n tl : Nat} {c m : jMem} (h : Rel p x u q n tl c m) : Rel p ((x + 1) % 8) (if u = 8 then 8 else u + 1) q n tl (pPush c x 14) (rMinds m u) ∧ (∀ a b, a < 26 ∨ 76 ≤ a → pPush c x 14 a b = c a b) ∧ (∀ a b, a ≠ 166 → (a ≠ 165 ∨ b ≠ 1) → rMinds m u a b = m a b) ∧ (∀ b, b < 208 ∨ 624 ≤ b → rMinds m u 166 b = m 166 b) := by
  obtain ⟨t1, t2, t3, t4, t5, t6⟩ := h.2.2.2.1
  have hp := h.1.p5
  have htx := tw_p t2
  obtain ⟨r1, r2, r3, r4⟩ := mi_row (m := m) t5
  have e1 : pPush c x 14 26 1 = nI ((x + 1) % 8) := by
    unfold pPush
    rw [jup_oth2 (by decide), jup_self, tc_out (by omega), t1]
    have key : ∀ x : Nat, x < 8 → nI x + 1 - (nI x + 1) / 8 * 8 = nI ((x + 1) % 8) := by decide +kernel
    exact key x t2
  have e2 : pPush c x 14 26 2 = nI (if u = 8 then 8 else u + 1) := by
    unfold pPush
    rw [jup_self, jup_oth2 (by decide), tc_out (by omega), t3]
    have key : ∀ u : Nat, u < 9 → (if 8 < nI u + 1 then 8 else nI u + 1) = nI (if u = 8 then 8 else u + 1) := by decide +kernel
    exact key u (by omega)
  have f0 : ∀ a b, a ≠ 26 → pPush c x 14 a b = tCp c (28 + 6 * x) 14 a b := fun a b h0 => by
    unfold pPush
    rw [jup_oth h0, jup_oth h0]
  have f1 : ∀ a b, (a < 28 + 6 * x ∨ 28 + 6 * x + 5 < a) → a ≠ 26 → pPush c x 14 a b = c a b := fun a b ha h0 => by
    rw [f0 a b h0, tc_out ha]
  have g1 : ∀ a b, a ≠ 166 → (a ≠ 165 ∨ b ≠ 1) → rMinds m u a b = m a b := fun a b h1 h2 => rMinds_lo m u h1 h2
  refine ⟨h.sPast ⟨e1, Nat.mod_lt _ (by decide), e2, r4, by split <;> omega, fun i hi => ?_⟩ (fun a b _ z => f1 a b (by omega) z.2) (fun a b hr z => ?_), fun a b ha => f1 a b (by omega) (by omega), g1, r3⟩
  · by_cases w : i = (if u = 8 then 7 else u)
    · have ex : ((x + 1) % 8 + 8 - (if u = 8 then 8 else u + 1) + i) % 8 = x := by
        rw [w]; split <;> omega
      rw [ex, w]
      refine h.2.2.1.move hp (fun k j z => ?_) (fun j _ => f1 _ _ (by omega) (by omega)) (fun j hj => ?_)
      · rw [f0 _ _ (by omega)]; exact tc_in htx twn_14 (by omega) z
      · rw [Nat.zero_add]; exact r2 j hj
    · have hi2 : (if u = 8 then i + 1 else i) < u := by
        split at hi <;> split at w <;> split <;> omega
      have ex : ((x + 1) % 8 + 8 - (if u = 8 then 8 else u + 1) + i) % 8 = (x + 8 - u + (if u = 8 then i + 1 else i)) % 8 := by
        split <;> omega
      rw [ex]
      have hx2 : (x + 8 - u + (if u = 8 then i + 1 else i)) % 8 ≠ x := by
        split at hi <;> split at w <;> split at hi2 <;> split <;> omega
      have hlt : (x + 8 - u + (if u = 8 then i + 1 else i)) % 8 < 8 := Nat.mod_lt _ (by decide)
      have h0 := t6 _ hi2
      generalize (x + 8 - u + (if u = 8 then i + 1 else i)) % 8 = y at hx2 hlt h0 ⊢
      refine h0.move hp (fun k j z => ?_) (fun j _ => f1 _ _ (by omega) (by omega)) (fun j hj => ?_)
      · have := tfld_6 z
        exact f1 _ _ (by omega) (by omega)
      · refine r1 i j ?_ ?_ hj
        · split at hi2 <;> omega
        · intro hu
          rw [if_pos hu] at hi w
          omega
  · by_cases w : a = 166
    · subst w; exact r3 b (by omega)
    · exact g1 a b w z.1
section Acts
variable {p x u q n tl x' u' : Nat} {c m c1 m1 c2 m2 : jMem}
theorem act_ok (h : Rel p x u q n tl c m) (hT : TT p 14 0 c2 m2) (g1 : ∀ a b, a < 14 ∨ 19 < a → c2 a b = pPush c x 14 a b) (g2 : ∀ a b, a ≠ 166 → a ≠ 176 → a ≠ 177 → m2 a b = rMinds m u a b) (g3 : ∀ b, 52 ≤ b → m2 166 b = rMinds m u 166 b) {v v' : Int32} (e : v = v') : OKc c m v c2 v' m2 := by
  obtain ⟨p1, p2, p3, p4⟩ := push_sim h
  refine ⟨e, ⟨_, _, _, _, _, _, p1.now hT (fun a b _ z => g1 a b (by omega)) (fun a b hr z => ?_)⟩, fun a b ha => (g1 a b (by omega)).trans (p2 a b (by omega)), fun a b ha => (g2 a b (by omega) (by omega) (by omega)).trans (p3 a b (by omega) (by omega))⟩
  unfold RM at hr
  by_cases w : a = 166
  · subst w; exact g3 b (z rfl)
  · exact g2 a b w (by omega) (by omega)
theorem s_round (h : Rel p x u q n tl c m) (w : Int32) : OKc c m (cRound c w).1 (cRound c w).2 (rRound m u w).1 (rRound m u w).2 := by
  have hP := h.1
  have hT := h.2.2.1
  have hx := h.2.2.2.1.1
  have hx8 := h.2.2.2.1.2.1
  unfold cRound rRound
  rw [hP.isw]
  cases z : xNW c w with
  | true => rw [b_t, b_nt]; exact OKc.same h rfl
  | false =>
    rw [b_f, b_nf]
    obtain ⟨k, k1, -, k3⟩ := hP.inw z
    rw [k3, hx, nI_clamp (by omega), hT.1.st k1]
    by_cases y : rSt m 0 k = true
    · rw [if_pos y, if_pos y]
      have hr := hT.1.rou k k1
      rw [Nat.zero_add] at hr
      have e7 : (7 ≤ c (14 + 2) k) ↔ (m 166 (12 + k) = 7) := by
        have b1 := hT.2.2.2.2.1 k k1
        rw [← hr, i_le, show (7 : Int32).toInt = 7 by decide, ← Int32.toInt_inj, show (7 : Int32).toInt = 7 by decide]
        omega
      by_cases y7 : m 166 (12 + k) = 7
      · rw [if_pos y7, if_pos (e7.mpr y7)]; exact OKc.same h rfl
      · rw [if_neg y7, if_neg (fun w => y7 (e7.mp w))]
        obtain ⟨p1, p2, p3, p4⟩ := push_sim h
        obtain ⟨s1, s2, s3, s4⟩ := round_sim (a := 14) (r := 0) (by omega) p1.1 p1.2.2.1.1 p1.2.2.1.2 k1
        have hv := s1.rou k k1
        rw [Nat.zero_add] at hv
        exact act_ok h ⟨s1, s2⟩ (fun a b ha => s4 a b (by omega)) (fun a b ha _ _ => by unfold rRo; exact jup_oth ha) (fun b hb => s3 b (by omega)) hv
    · rw [if_neg y, if_neg y]; exact OKc.same h rfl
theorem g_1_9 {n : Int32} (z : xOut n 1 9 = false) : 1 ≤ n.toInt ∧ n.toInt ≤ 9 := by
  obtain ⟨k, k1, k2, k3, -⟩ := g_out (L := 1) (H := 9) (by decide) (by decide) (by decide) (by decide) z
  rw [k3, nI_toInt (by omega)]
  omega
theorem g_wn (hP : PR p c m) (w k : Int32) : (rIsW m w = true ∧ rIn k.toInt64 1 9 = true) ↔ ¬ (xNW c w = true ∨ xOut k 1 9 = true) := by
  rw [hP.isw, g_in (l := 1) (h := 9) (by decide) (by decide)]
  cases xNW c w <;> cases xOut k 1 9 <;> decide
theorem s_blast (h : Rel p x u q n tl c m) (w k : Int32) : ∃ vm m', rBlast m u w k p = some (vm, m') ∧ OKc c m (cBlast c p w k).1 (cBlast c p w k).2 vm m' := by
  have hP := h.1
  have hT := h.2.2.1
  have hx := h.2.2.2.1.1
  have hx8 := h.2.2.2.1.2.1
  unfold cBlast rBlast
  by_cases z : xNW c w = true ∨ xOut k 1 9 = true
  · rw [if_pos z, if_neg (fun y => (g_wn hP w k).mp y z)]
    exact ⟨_, _, rfl, OKc.same h rfl⟩
  · rw [if_neg z, if_pos ((g_wn hP w k).mpr z)]
    obtain ⟨j, k1, -, k3⟩ := hP.inw (Bool.eq_false_iff.mpr (fun y => z (Or.inl y)))
    have hn := g_1_9 (Bool.eq_false_iff.mpr (fun y => z (Or.inr y)))
    rw [k3, hx, nI_clamp (by omega), hT.1.st k1]
    by_cases y : rSt m 0 j = true
    · rw [if_pos y, if_pos y]
      obtain ⟨p1, p2, p3, p4⟩ := push_sim h
      have hst : tSt (pPush c x 14) 14 j = true := by
        unfold tSt
        rw [p2 _ _ (by omega), p2 _ _ (by omega)]
        exact (hT.1.st k1).trans y
      obtain ⟨m', b1, b2, b3, b4, b5, -⟩ := blow_sim (a := 14) (r := 0) (by omega) p1.1 p1.2.1 p1.2.2.1.1 p1.2.2.1.2 k1 hst hn
      exact ⟨_, m', b1, act_ok h ⟨b2, b3⟩ (fun a b ha => b5 a b (by omega)) (fun a b ha h6 h7 => rBl_lo ha h6 h7 b1) (fun b hb => b4 b (by omega)) rfl⟩
    · rw [if_neg y, if_neg y]; exact ⟨_, _, rfl, OKc.same h rfl⟩
theorem s_pass (h : Rel p x u q n tl c m) (w : Int32) : OKc c m (cPass c p w).1 (cPass c p w).2 (rPass m u w p).1 (rPass m u w p).2 := by
  have hx := h.2.2.2.1.1
  have hx8 := h.2.2.2.1.2.1
  unfold cPass rPass
  rw [g_in (l := 1) (h := 24) (by decide) (by decide)]
  cases z : xOut w 1 24 with
  | true => rw [b_t, b_nt]; exact OKc.same h rfl
  | false =>
    rw [b_f, b_nf, hx, nI_clamp (by omega)]
    obtain ⟨p1, p2, p3, p4⟩ := push_sim h
    generalize w.toNatClampNeg = d
    obtain ⟨g1, g2, g3, g4, g5, g6⟩ := it_rel (f := fun _ s => tDay s 14 p) (g := fun _ m => rPs m 0 p) (p := d) (fun _ s t => TR True p 14 0 s t ∧ TI p 14 s ∧ PR p s t ∧ (∀ a b, a < 14 ∨ 19 < a → s a b = pPush c x 14 a b) ∧ (∀ a b, a ≠ 166 → t a b = rMinds m u a b) ∧ (∀ b, 52 ≤ b → t 166 b = rMinds m u 166 b)) (fun i s t hi hr => by
      obtain ⟨g1, g2, g3, g4, g5, g6⟩ := hr
      obtain ⟨s1, s2, s3, s4⟩ := day_sim (a := 14) (r := 0) (by omega) g3 g1 g2
      exact ⟨s1, s2, g3.keep (fun a b ha => s4 a b (by omega)) (fun a b ha _ _ => rPs_lo _ _ _ ha), fun a b ha => (s4 a b (by omega)).trans (g4 a b ha), fun a b ha => (rPs_lo _ _ _ ha).trans (g5 a b ha), fun b hb => (s3 b (by omega)).trans (g6 b hb)⟩) d 0 (pPush c x 14) (rMinds m u) (by omega) ⟨p1.2.2.1.1, p1.2.2.1.2, p1.1, fun _ _ _ => rfl, fun _ _ _ => rfl, fun _ _ => rfl⟩
    exact act_ok h ⟨g1, g2⟩ g4 (fun a b ha _ _ => g5 a b ha) g6 (g1.day trivial)
theorem s_prop (h : Rel p x u q n tl c m) (v w s : Int32) : OKc c m (cProp c v w s).1 (cProp c v w s).2 (rProp m u v w s).1 (rProp m u v w s).2 := by
  have hP := h.1
  have hp := hP.p5
  have hT := h.2.2.1
  have hx := h.2.2.2.1.1
  have hx8 := h.2.2.2.1.2.1
  have hg : (rIsW m v = true ∧ rIsW m w = true ∧ ¬ v = w ∧ rIn s.toInt64 0 40 = true) ↔ ¬ (xNP c v w = true ∨ xOut s 0 40 = true) := by
    rw [g_in (l := 0) (h := 40) (by decide) (by decide)]
    constructor
    · intro y hz
      have := (hP.npr v w).mp ⟨y.1, y.2.1, y.2.2.1⟩
      rcases hz with hz | hz
      · rw [hz] at this; cases this
      · rw [hz] at y; exact absurd y.2.2.2 (by decide)
    · intro y
      obtain ⟨y1, y2, y3⟩ := (hP.npr v w).mpr (Bool.eq_false_iff.mpr (fun z => y (Or.inl z)))
      exact ⟨y1, y2, y3, by rw [Bool.eq_false_iff.mpr (fun z => y (Or.inr z))]; rfl⟩
  unfold cProp rProp
  by_cases z : xNP c v w = true ∨ xOut s 0 40 = true
  · rw [if_pos z, if_neg (fun y => hg.mp y z)]
    exact OKc.same h rfl
  · rw [if_neg z, if_pos (hg.mpr z)]
    obtain ⟨i, j, h1, h2, h3, rfl, rfl⟩ := np_in hP.cp hP.p5 (Bool.eq_false_iff.mpr (fun y => z (Or.inl y)))
    obtain ⟨k, k1, k2, k3, -⟩ := g_out (L := 0) (H := 40) (by decide) (by decide) (by decide) (by decide) (Bool.eq_false_iff.mpr (fun y => z (Or.inr y)))
    rw [nI_clamp (by omega), nI_clamp (by omega), hx, nI_clamp (by omega)]
    have hh := hT.1.held (x := i) (y := j) (by omega) (by omega)
    rw [Nat.zero_add] at hh
    rw [hh]
    by_cases y : m 166 (27 + 5 * i + j) = s
    · rw [if_pos y, if_pos y]; exact OKc.same h rfl
    · rw [if_neg y, if_neg y]
      obtain ⟨p1, p2, p3, p4⟩ := push_sim h
      dsimp only
      unfold tSet
      rw [show 27 + 5 * i + j = 0 + 27 + (i * 5 + j) by omega]
      refine act_ok h ⟨p1.2.2.1.1.w_pro (by omega) hp (by omega) s, TI.w_pro (by omega) p1.2.2.1.2 (by rw [k3, nI_toInt (by omega)]; omega)⟩ (fun a b ha => jup_oth (by omega)) (fun a b ha _ _ => jup_oth ha) (fun b hb => jup_oth2 (by omega)) rfl
theorem s_use (h : Rel p x u q n tl c m) (w : Int32) : OKc c m (cUse c w).1 (cUse c w).2 (rUse m u w).1 (rUse m u w).2 := by
  have hP := h.1
  have hp := hP.p5
  have hT := h.2.2.1
  have hx := h.2.2.2.1.1
  have hx8 := h.2.2.2.1.2.1
  unfold cUse rUse
  rw [g_in (l := 1) (h := 60) (by decide) (by decide)]
  cases z : xOut w 1 60 with
  | true => rw [b_t, b_nt]; exact OKc.same h rfl
  | false =>
    obtain ⟨k, k1, k2, k3, -⟩ := g_out (L := 1) (H := 60) (by decide) (by decide) (by decide) (by decide) z
    have e0 : c 14 6 = m 166 0 := hT.1.sto trivial
    rw [b_f, b_nf, hx, nI_clamp (by omega), ← e0]
    by_cases y : w ≤ c 14 6
    · rw [if_pos y, if_pos y]
      obtain ⟨p1, p2, p3, p4⟩ := push_sim h
      have e1 : pPush c x 14 14 6 = rMinds m u 166 0 := p1.2.2.1.1.sto trivial
      have e2 : pPush c x 14 14 6 = c 14 6 := p2 _ _ (by omega)
      have b1 := p1.2.2.1.2.2.2.2.2
      have b2 := q_F10 (c := pPush c x 14) (a := 14) p1.2.2.1.2.1
      unfold q_so at b1
      have hw : w.toInt = k := by rw [k3, nI_toInt (by omega)]
      have es : (pPush c x 14 14 6 - w).toInt = (pPush c x 14 14 6).toInt - w.toInt := i_sub (by omega) (by omega)
      rw [i_le] at y
      dsimp only
      rw [← e1]
      refine act_ok h ⟨p1.2.2.1.1.w_sto (by omega) hp _, TI.w_own (by omega) p1.2.2.1.2 (fun _ => by rw [es, e2]; omega)⟩ (fun a b ha => jup_oth (by omega)) (fun a b ha _ _ => jup_oth ha) (fun b hb => jup_oth2 (by omega)) ?_
      rw [jup_self, jup_self]
    · rw [if_neg y, if_neg y]; exact OKc.same h rfl
theorem s_undo (h : Rel p x u q n tl c m) : OKc c m (cUndo c).1 (cUndo c).2 (rUndo m u).1 (rUndo m u).2 := by
  obtain ⟨t1, t2, t3, t4, t5, t6⟩ := h.2.2.2.1
  have hp := h.1.p5
  unfold cUndo rUndo
  rw [t1, t3, t4, nI_clamp (by omega)]
  by_cases z : u = 0
  · subst z
    rw [if_neg (by decide), if_pos (by decide)]
    exact OKc.same h rfl
  · have q1 : (1 : Int32) ≤ nI u := by rw [show (1 : Int32) = nI 1 by decide, nI_leI (by omega) (by omega)]; omega
    have q2 : ¬ nI u = 0 := by rw [show (0 : Int32) = nI 0 by decide, nI_eq (by omega) (by omega)]; exact z
    rw [if_pos q1, if_neg q2]
    dsimp only
    have hy : (x + 7) % 8 < 8 := Nat.mod_lt _ (by decide)
    have htw := tw_p hy
    have f1 : ∀ a b, (a < 14 ∨ 19 < a) → a ≠ 26 → pPop c x 14 a b = c a b := fun a b ha h0 => by
      unfold pPop
      rw [tc_out (by omega), jup_oth h0, jup_oth h0]
    have e1 : pPop c x 14 26 1 = nI ((x + 7) % 8) := by
      unfold pPop
      rw [tc_out (by omega), jup_oth2 (by decide), jup_self, t1, pop_ix t2]
    have e2 : pPop c x 14 26 2 = nI (u - 1) := by
      unfold pPop
      rw [tc_out (by omega), jup_self, jup_oth2 (by decide), t3, nI_predS (by omega)]
    have g1 : ∀ a b, a ≠ 166 → (a ≠ 165 ∨ b ≠ 1) → rCopy (jup m 165 1 (nI (u - 1))) (208 + 52 * (u - 1)) 0 a b = m a b := fun a b h1 h2 => by
      rw [rCopy_lo _ _ _ h1]
      rcases h2 with w | w
      · exact jup_oth w
      · exact jup_oth2 w
    have e3 : rCopy (jup m 165 1 (nI (u - 1))) (208 + 52 * (u - 1)) 0 165 1 = nI (u - 1) := by rw [rCopy_lo _ _ _ (by decide), jup_self]
    have g2 : ∀ b, 52 ≤ b → rCopy (jup m 165 1 (nI (u - 1))) (208 + 52 * (u - 1)) 0 166 b = m 166 b := fun b hb => by rw [cp_out (by omega) (by omega), jup_oth (by decide)]
    have ex : (x + 8 - u + (u - 1)) % 8 = (x + 7) % 8 := by omega
    have hT0 := t6 (u - 1) (by omega)
    rw [ex] at hT0
    have hT : TT p 14 0 (pPop c x 14) (rCopy (jup m 165 1 (nI (u - 1))) (208 + 52 * (u - 1)) 0) := by
      refine hT0.move hp (fun k j w => ?_) (fun j _ => f1 _ _ (by omega) (by omega)) (fun j hj => ?_)
      · unfold pPop
        rw [tc_in twn_14 htw (by omega) w, jup_oth (by omega), jup_oth (by omega)]
      · rw [cp_in (by omega) hj, jup_oth (by decide)]
    have hpast : RPast p ((x + 7) % 8) (u - 1) (pPop c x 14) (rCopy (jup m 165 1 (nI (u - 1))) (208 + 52 * (u - 1)) 0) := by
      refine ⟨e1, hy, e2, e3, by omega, fun i hi => ?_⟩
      have ei : ((x + 7) % 8 + 8 - (u - 1) + i) % 8 = (x + 8 - u + i) % 8 := by omega
      rw [ei]
      exact (t6 i (by omega)).keep hp (fun a b ha => f1 a b (by omega) (by omega)) (fun y _ _ => g2 y (by omega))
    have hr : Rel p x u q n tl (jup (jup (pPop c x 14) 26 1 (c 26 1)) 26 2 (c 26 2)) (jup (rCopy (jup m 165 1 (nI (u - 1))) (208 + 52 * (u - 1)) 0) 165 1 (m 165 1)) := by
      refine h.now (hT.keep hp (fun a b ha => by rw [jup_oth (by omega), jup_oth (by omega)]) (fun y _ _ => jup_oth (by decide))) (fun a b _ ha => ?_) (fun a b _ ha => ?_)
      · by_cases w : a = 26
        · subst w
          by_cases w2 : b = 2
          · rw [w2, jup_self]
          · rw [jup_oth2 w2]
            by_cases w1 : b = 1
            · rw [w1, jup_self]
            · rw [jup_oth2 w1]
              unfold pPop
              rw [tc_out (by omega), jup_oth2 w2, jup_oth2 w1]
        · rw [jup_oth w, jup_oth w, f1 a b (by omega) w]
      · by_cases w : a = 166
        · subst w; rw [jup_oth (by decide)]; exact g2 b (ha rfl)
        · by_cases w1 : a = 165 ∧ b = 1
          · rw [w1.1, w1.2, jup_self]
          · have : jup (rCopy (jup m 165 1 (nI (u - 1))) (208 + 52 * (u - 1)) 0) 165 1 (m 165 1) a b = rCopy (jup m 165 1 (nI (u - 1))) (208 + 52 * (u - 1)) 0 a b := by
              rw [jup_at, if_neg w1]
            rw [this]; exact g1 a b w (by omega)
    refine ⟨e2.trans e3.symm, ⟨p, _, _, q, n, tl, hr.sPast hpast (fun a b _ z => by rw [jup_oth (by omega), jup_oth (by omega)]) (fun a b _ z => ?_)⟩, fun a b ha => f1 a b (by omega) (by omega), fun a b ha => g1 a b (by omega) (by omega)⟩
    rcases z.1 with w | w
    · rw [jup_oth w]
    · rw [jup_oth2 w]
end Acts
