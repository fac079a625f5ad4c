/-! save -/
theorem sv_1 : ∀ i : Fin 32, jBC (nI i.val) = rOnes (nI i.val) ∧ rOnes (nI i.val) < 1000000 := by decide +kernel
theorem sv_2 : ∀ i d : Fin 32, (nI i.val &&& (nI d.val ^^^ -1) = 0) → i.val ≤ d.val ∧ (i.val < d.val → rOnes (nI i.val) < rOnes (nI d.val)) := by decide +kernel
theorem sv_3 : ∀ d : Fin 32, nI d.val &&& (nI d.val ^^^ -1) = 0 := by decide +kernel
theorem dst_pow : ∀ p : Nat, p < 6 → ∀ b0 b1 b2 b3 b4 : Bool, ∃ d : Fin 32, dst (kB b0 b1 b2 b3 b4) p = nI d.val ∧ d.val < 2 ^ p := by decide +kernel
theorem itO_split {S : Type} (f : Nat → S → Option S) : ∀ (n k i : Nat) (s : S), itO f (n + k) i s = (itO f n i s).bind (itO f k (i + n))
  | 0, k, i, s => by rw [Nat.zero_add]; rfl
  | n + 1, k, i, s => by
    rw [show n + 1 + k = (n + k) + 1 by omega, itO, itO]
    cases f i s with
    | none => rfl
    | some a =>
      show itO f (n + k) (i + 1) a = (itO f n (i + 1) a).bind _
      rw [itO_split f n k (i + 1) a, show i + 1 + n = i + (n + 1) by omega]
theorem itO_id {S : Type} {f : Nat → S → Option S} {t : S} {d : Nat} (h : ∀ j, d ≤ j → f j t = some t) : ∀ (n i : Nat), d ≤ i → itO f n i t = some t
  | 0, _, _ => rfl
  | n + 1, i, hi => by rw [itO, h i hi]; exact itO_id h n (i + 1) (by omega)
section Sv
variable {p x u q n tl : Nat} {c m : jMem}
theorem sv_mask (hp : p ≤ 5) {e : Prop} (hT : TR e p 14 0 c m) {w : Nat} (hw : w < p) : ∃ d : Fin 32, tHo c 14 p w = nI d.val ∧ rSvM m w p = nI d.val ∧ d.val < 2 ^ p := by
  have e1 : tHo c 14 p w = rSvM m w p := by
    unfold tHo rSvM
    refine it_congr (p := p) (fun i s hi => ?_) p 0 0 (by omega)
    have hh := hT.held (x := i) (y := w) (by omega) (by omega)
    rw [Nat.zero_add] at hh
    unfold rSvH
    rw [hh]
    by_cases z : 0 < m 166 (27 + 5 * i + w)
    · rw [if_pos z, if_pos z]
    · rw [if_neg z, if_neg z, Int32.or_zero]
  have e2 : rSvM m w p = dst (fun i => !decide (0 < m 166 (27 + 5 * i + w))) p := by
    unfold rSvM dst
    refine it_congr (p := p) (fun i s hi => ?_) p 0 0 (by omega)
    unfold rSvH
    dsimp only
    by_cases z : 0 < m 166 (27 + 5 * i + w)
    · rw [if_pos z, if_neg (by simp [z])]
    · rw [if_neg z, if_pos (by simp [z])]
  obtain ⟨d, d1, d2⟩ := dst_pow p (by omega) _ _ _ _ _
  rw [← dst_kB (fun i => !decide (0 < m 166 (27 + 5 * i + w))) hp] at d1
  exact ⟨d, e1.trans (e2.trans d1), e2.trans d1, d2⟩
/-- the props of a set are taken, in the trial town -/
theorem sw_props (h : Rel p x u q n tl c m) {w : Nat} (hw : w < p) (S : Int32) : TR True p 20 52 (it (cSwF S w) p 0 (tCp c 20 14)) (rSvP w S p m) ∧ TI p 20 (it (cSwF S w) p 0 (tCp c 20 14)) ∧ (∀ a b, a ≠ 25 → it (cSwF S w) p 0 (tCp c 20 14) a b = tCp c 20 14 a b) ∧ (∀ a b, a ≠ 166 → rSvP w S p m a b = m a b) ∧ (∀ b, b < 52 ∨ 104 ≤ b → rSvP w S p m 166 b = m 166 b) := by
  have hp := h.1.p5
  obtain ⟨t1, t2, t3, t4, t5, t6, t7⟩ := try_sim h
  unfold rSvP
  obtain ⟨r1, r2, r3, r4, r5, -⟩ := it_rel (f := cSwF S w) (g := rSvC w S) (p := p) (fun i s t => TR True p 20 52 s t ∧ TI p 20 s ∧ (∀ a b, a ≠ 25 → s a b = tCp c 20 14 a b) ∧ (∀ a b, a ≠ 166 → t a b = m a b) ∧ (∀ b, b < 52 ∨ 104 ≤ b → t 166 b = m 166 b) ∧ (∀ j, i ≤ j → j < 5 → t 166 (79 + 5 * j + w) = m 166 (27 + 5 * j + w))) (fun i s t hi hr => by
    obtain ⟨r1, r2, r3, r4, r5, r6⟩ := hr
    unfold cSwF rSvC rHas
    have hb : ∀ v b, b < 52 ∨ 104 ≤ b → jup t 166 (79 + 5 * i + w) v 166 b = m 166 b := fun v b hb => (jup_oth2 (by omega)).trans (r5 b hb)
    have ha : ∀ v a b, a ≠ 166 → jup t 166 (79 + 5 * i + w) v a b = m a b := fun v a b ha => (jup_oth ha).trans (r4 a b ha)
    have hj : ∀ v j, i + 1 ≤ j → j < 5 → jup t 166 (79 + 5 * i + w) v 166 (79 + 5 * j + w) = m 166 (27 + 5 * j + w) := fun v j h1 h2 => (jup_oth2 (by omega)).trans (r6 j (by omega) h2)
    by_cases z : S >>> (nI i &&& 31) &&& 1 = 1
    · rw [if_pos z, decide_eq_true z, if_pos rfl]
      refine ⟨?_, TI.w_pro (by omega) r2 (by rw [i_n0]; omega), fun a b h1 => (jup_oth h1).trans (r3 a b h1), ha _, hb _, hj _⟩
      have := r1.w_pro (by omega) hp (k := i * 5 + w) (by omega) 0
      rw [show 52 + 27 + (i * 5 + w) = 79 + 5 * i + w by omega] at this
      exact this
    · rw [if_neg z, decide_eq_false z, if_neg (by decide), jup_same t (by rw [r6 i (Nat.le_refl _) (by omega), r5 _ (by omega)])]
      exact ⟨r1, r2, r3, r4, r5, fun j h1 h2 => r6 j (by omega) h2⟩) p 0 (tCp c 20 14) (rCopy m 0 52) (by omega) ⟨t1, t2, fun _ _ _ => rfl, t6, t7, fun j _ h2 => by
      rw [show 79 + 5 * j + w = 52 + (27 + 5 * j + w) by omega, cp_in (by omega) (by omega), Nat.zero_add]⟩
  exact ⟨r1, r2, r3, r4, r5⟩
theorem sw_sim (h : Rel p x u q n tl c m) {w b : Nat} (hw : w < p) (hb : b < p) (hst : tSt c 14 b = true) (S : Int32) : ∃ m', rFl 52 p 6 true 0 (rSvP w S p m) b = some m' ∧ rSt m' 52 w = cSwB c p S w b ∧ (∀ x y, x < 20 ∨ 25 < x → cSwM c p S w b x y = c x y) ∧ (∀ x y, x ≠ 166 → x ≠ 176 → x ≠ 177 → m' x y = m x y) ∧ (∀ y, y < 52 ∨ 104 ≤ y → m' 166 y = m 166 y) := by
  have hp := h.1.p5
  obtain ⟨r1, r2, r3, r4, r5⟩ := sw_props h hw S
  have f1 : ∀ x y, x < 20 ∨ 25 < x → it (cSwF S w) p 0 (tCp c 20 14) x y = c x y := fun x y hx => (r3 x y (by omega)).trans (tc_out (by omega))
  obtain ⟨m', g1, g2, g3, g4, g5, g6⟩ := trial_fall hb r1 r2 (h.1.keep (fun x y hx => f1 x y (by omega)) (fun x y hx _ _ => r4 x y hx)) (h.2.1.keep (fun y => f1 _ _ (by omega))) (by
    unfold tSt
    rw [r3 _ _ (by omega), r3 _ _ (by omega)]
    exact (tc_st twn_20 twn_14 (by decide) (by omega)).trans hst)
  exact ⟨m', g1, (g2.st hw).symm, fun x y hx => (g3 x y hx).trans (f1 x y hx), fun x y h1 h2 h3 => (g4 x y h1 h2 h3).trans (r4 x y h1), fun y hy => (g5 y hy).trans (r5 y hy)⟩
theorem s_save (h : Rel p x u q n tl c m) (v w : Int32) : ∃ vm m', rSave m v w p = some (vm, m') ∧ OKc c m (cSave c p v w).1 (cSave c p v w).2 vm m' := by
  have hP := h.1
  have hp := hP.p5
  have hT := h.2.2.1.1
  unfold cSave rSave
  cases z : xNP c v w with
  | true => rw [b_t, if_neg (fun y => by rw [hP.npr, z] at y; cases y)]; exact ⟨_, _, rfl, OKc.same h rfl⟩
  | false =>
    rw [b_f, if_pos ((hP.npr v w).mpr z)]
    obtain ⟨i, j, h1, h2, h3, rfl, rfl⟩ := np_in hP.cp hP.p5 z
    rw [nI_clamp (by omega), nI_clamp (by omega), hT.st h1, hT.st h2]
    by_cases y : rSt m 0 i = true ∧ rSt m 0 j = true
    · rw [if_pos y, if_pos y]
      obtain ⟨d, d1, d2, d3⟩ := sv_mask hp hT h1
      have d32 := d.isLt
      rw [d1, d2, nI_clamp (by omega)]
      have hst : tSt c 14 j = true := (hT.st h2).trans y.2
      have hrel : ∀ (s t : jMem), (∀ x y, x < 20 ∨ 25 < x → s x y = c x y) → (∀ x y, x ≠ 166 → x ≠ 176 → x ≠ 177 → t x y = m x y) → (∀ y, y < 52 ∨ 104 ≤ y → t 166 y = m 166 y) → Rel p x u q n tl s t ∧ tSt s 14 j = true := fun s t f1 f2 f3 => ⟨h.keep (fun a b ha => f1 a b (by unfold RC at ha; omega)) (fun a b hb => by
        unfold RM at hb
        by_cases v : a = 166
        · subst v; exact f3 b (by omega)
        · exact f2 a b v (by omega) (by omega)), by
          unfold tSt
          rw [f1 _ _ (by omega), f1 _ _ (by omega)]
          exact hst⟩
      obtain ⟨t, e1, r1, r2, r3, r4, r5⟩ := it_itO (f := cSvF p i j (nI d.val)) (g := rSvF i j p (nI d.val)) (p := d.val) (fun _ s t => s.1 = t.1 ∧ ((t.2.1 = 1000000 ∧ t.1 = nI d.val) ∨ (∃ k, k < d.val ∧ t.1 = nI k ∧ t.2.1 = rOnes (nI k) ∧ nI k &&& (nI d.val ^^^ -1) = 0)) ∧ (∀ x y, x < 20 ∨ 25 < x → s.2 x y = c x y) ∧ (∀ x y, x ≠ 166 → x ≠ 176 → x ≠ 177 → t.2.2 x y = m x y) ∧ (∀ y, y < 52 ∨ 104 ≤ y → t.2.2 166 y = m 166 y)) (fun k s t hk hr => by
        obtain ⟨r1, r2, r3, r4, r5⟩ := hr
        have k1 := sv_1 ⟨k, by omega⟩
        have k2 := sv_2 ⟨k, by omega⟩ d
        have kd := sv_1 d
        dsimp only at k1 k2
        have ec : (jBC (nI k) < jBC s.1 ∧ nI k &&& (nI d.val ^^^ -1) = 0) ↔ (nI k &&& (nI d.val ^^^ -1) = 0 ∧ rOnes (nI k) < t.2.1) := by
          rw [r1, k1.1]
          rcases r2 with ⟨q1, q2⟩ | ⟨k', q1, q2, q3, q4⟩
          · rw [q1, q2, kd.1]
            exact ⟨fun a => ⟨a.2, k1.2⟩, fun a => ⟨(k2 a.1).2 hk, a.1⟩⟩
          · have k3 := sv_1 ⟨k', by omega⟩
            dsimp only at k3
            rw [q2, q3, k3.1]
            exact ⟨fun a => ⟨a.2, a.1⟩, fun a => ⟨a.2, a.1⟩⟩
        unfold cSvF rSvF
        by_cases g : nI k &&& (nI d.val ^^^ -1) = 0 ∧ rOnes (nI k) < t.2.1
        · rw [if_pos g, if_pos (ec.mpr g)]
          obtain ⟨hR, hs⟩ := hrel s.2 t.2.2 r3 r4 r5
          obtain ⟨m', g1, g2, g3, g4, g5⟩ := sw_sim hR h1 h2 hs (nI k)
          rw [g1, ← g2]
          refine ⟨_, rfl, ?_⟩
          have f1 := fun x y hx => (g3 x y hx).trans (r3 x y hx)
          have f2 := fun x y a1 a2 a3 => (g4 x y a1 a2 a3).trans (r4 x y a1 a2 a3)
          have f3 := fun y hy => (g5 y hy).trans (r5 y hy)
          by_cases b : rSt m' 52 i = true
          · rw [if_pos b]
            dsimp only
            rw [if_pos b]
            exact ⟨rfl, Or.inr ⟨k, hk, rfl, rfl, g.1⟩, f1, f2, f3⟩
          · rw [if_neg b]
            dsimp only
            rw [if_neg b]
            exact ⟨r1, r2, f1, f2, f3⟩
        · rw [if_neg g, if_neg (fun a => g (ec.mp a))]
          exact ⟨_, rfl, r1, r2, r3, r4, r5⟩) d.val 0 (nI d.val, c) (nI d.val, 1000000, m) (by omega) ⟨rfl, Or.inl ⟨rfl, rfl⟩, fun _ _ _ => rfl, fun _ _ _ _ _ => rfl, fun _ _ => rfl⟩
      have hbeyond : ∀ t' : Int32 × Int32 × jMem, ∀ jj, d.val + 1 ≤ jj → jj < 32 → rSvF i j p (nI d.val) jj t' = some t' := fun t' jj hj hj2 => by
        unfold rSvF
        rw [if_neg (fun a => by
          have := (sv_2 ⟨jj, hj2⟩ d a.1).1
          dsimp only at this
          omega)]
      have hidr : ∀ (t' : Int32 × Int32 × jMem) (n i' : Nat), d.val + 1 ≤ i' → i' + n ≤ 32 → itO (rSvF i j p (nI d.val)) n i' t' = some t' := fun t' n => by
        induction n with
        | zero => intro i' _ _; rfl
        | succ n ih =>
          intro i' h1 h2
          rw [itO, hbeyond t' i' h1 (by omega)]
          exact ih (i' + 1) (by omega) (by omega)
      have h2p := two_p hp
      have e2 : ∃ t2, itO (rSvF i j p (nI d.val)) (2 ^ p) 0 (nI d.val, 1000000, m) = some t2 ∧ t2.1 = t.1 ∧ (∀ x y, x ≠ 166 → x ≠ 176 → x ≠ 177 → t2.2.2 x y = m x y) ∧ (∀ y, y < 52 ∨ 104 ≤ y → t2.2.2 166 y = m 166 y) := by
        rw [show 2 ^ p = d.val + (1 + (2 ^ p - d.val - 1)) by omega, itO_split, e1]
        show ∃ t2, itO (rSvF i j p (nI d.val)) (1 + (2 ^ p - d.val - 1)) (0 + d.val) t = some t2 ∧ _
        rw [Nat.zero_add, Nat.add_comm 1, itO]
        by_cases g : nI d.val &&& (nI d.val ^^^ -1) = 0 ∧ rOnes (nI d.val) < t.2.1
        · have hd : t.1 = nI d.val := by
            rcases r2 with q | ⟨k, q1, q2, q3, q4⟩
            · exact q.2
            · exfalso
              have := (sv_2 ⟨k, by omega⟩ d q4).2 q1
              dsimp only at this
              rw [q3, i_lt] at g
              rw [i_lt] at this
              omega
          obtain ⟨hR, hs⟩ := hrel (it (cSvF p i j (nI d.val)) d.val 0 (nI d.val, c)).2 t.2.2 r3 r4 r5
          obtain ⟨m', g1, g2, g3, g4, g5⟩ := sw_sim hR h1 h2 hs (nI d.val)
          have f2 := fun x y a1 a2 a3 => (g4 x y a1 a2 a3).trans (r4 x y a1 a2 a3)
          have f3 := fun y hy => (g5 y hy).trans (r5 y hy)
          have ef : rSvF i j p (nI d.val) d.val t = some (if rSt m' 52 i = true then (nI d.val, rOnes (nI d.val), m') else (t.1, t.2.1, m')) := by
            unfold rSvF
            rw [if_pos g, g1]; rfl
          rw [ef]
          show ∃ t2, itO (rSvF i j p (nI d.val)) (2 ^ p - d.val - 1) (d.val + 1) _ = some t2 ∧ _
          rw [hidr _ _ _ (Nat.le_refl _) (by omega)]
          refine ⟨_, rfl, ?_⟩
          by_cases b : rSt m' 52 i = true
          · rw [if_pos b]; exact ⟨hd.symm, f2, f3⟩
          · rw [if_neg b]; exact ⟨rfl, f2, f3⟩
        · have ef : rSvF i j p (nI d.val) d.val t = some t := by
            unfold rSvF
            rw [if_neg g]
          rw [ef]
          show ∃ t2, itO (rSvF i j p (nI d.val)) (2 ^ p - d.val - 1) (d.val + 1) t = some t2 ∧ _
          rw [hidr _ _ _ (Nat.le_refl _) (by omega)]
          exact ⟨t, rfl, rfl, r4, r5⟩
      obtain ⟨t2, a1, a2, a3, a4⟩ := e2
      rw [a1]
      refine ⟨_, _, rfl, OKc.asks h (r1.trans a2.symm) (fun a b ha => r3 a b (by omega)) (fun a b ha => ?_)⟩
      by_cases v : a = 166
      · subst v; exact a4 b (by omega)
      · exact a3 a b v (by omega) (by omega)
    · rw [if_neg y, if_neg y]; exact ⟨_, _, rfl, OKc.same h rfl⟩
end Sv
