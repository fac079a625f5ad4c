/-! lay -/
theorem s_lay {p x u q n tl : Nat} {c m : jMem} (h : Rel p x u q n tl c m) : OKc c m (cLay c).1 (cLay c).2 (rLay m).1 (rLay m).2 := by
  have hX := h.2.2.2.2.2.2.tx
  have r4 := read0 (q := 4) (Or.inl rfl) hX
  have asks : ∀ v, OKc c m v (xRead 4 c).2 v (rFo m).2 := fun v => OKc.asks h rfl (fun a b ha => xread_fr (by omega) (by omega) c) (fun a b ha => rfo0_fr (by unfold RF; omega) m)
  unfold cLay rLay
  by_cases z : (xRead 4 c).1 = -4
  · obtain ⟨N, hL⟩ := r4.2 z
    have z' : (rFo m).1 = -4 := r4.1.symm.trans z
    have e0 : (xRead 4 c).2 4 0 = nI N := hL.1
    have e1 : (rFo m).2 165 15 = nI N := hL.2.1
    have n5 : N ≤ 5 := hL.2.2.1
    rw [e0, e1, nI_clamp (by omega)]
    have hN : (nI N = 0) ↔ N = 0 := by rw [show (0 : Int32) = nI 0 by decide, nI_eq (by omega) (by omega)]
    by_cases y : N = 0
    · rw [if_neg (fun w => w.2 (hN.mpr y)), if_neg (fun w => w.2 (hN.mpr y))]
      exact asks _
    · rw [if_pos ⟨z, fun w => y (hN.mp w)⟩, if_pos ⟨z', fun w => y (hN.mp w)⟩]
      have f1 : ∀ a b, a ≠ 3 → (a < 4 ∨ 8 < a) → (xRead 4 c).2 a b = c a b := fun a b h3 ha => xread_fr h3 ha c
      have g1 : ∀ a b, RF a b → (rFo m).2 a b = m a b := fun a b hr => rfo0_fr hr m
      have r9 := read0 (q := 9) (c := (xRead 4 c).2) (m := m) (Or.inr rfl) (hX.keep (fun a b ha => f1 a b (by omega) (by omega)) rfl (fun _ => rfl))
      obtain ⟨N', hL9⟩ := r9.2 (r9.1.trans z')
      have eN : N' = N := by
        have := hL9.2.1.symm.trans e1
        have h5 := hL9.2.2.1
        exact (nI_eq (by omega) (by omega)).mp this
      subst eN
      have f2 : ∀ a b, a ≠ 3 → (a < 9 ∨ 13 < a) → (xRead 9 (xRead 4 c).2).2 a b = (xRead 4 c).2 a b := fun a b h3 ha => xread_fr h3 ha _
      have h1N : 1 ≤ N' := by omega
      obtain ⟨p1, p2, p3, p4, p5, p6, p7⟩ := hL9
      unfold cLayM
      dsimp only
      generalize (xRead 9 (xRead 4 c).2).2 = c2 at p1 p4 p5 p6 p7 f2 ⊢
      generalize (rFo m).2 = m1 at p2 p4 p5 p6 g1 e1 ⊢
      obtain ⟨l1, l2, l3, l4, l5, l6, l7, l8⟩ := ly_rd c2 (a := 14) (by omega)
      obtain ⟨b1, b2, b3, b4, b5, b6, b7, b8, b9, b10, b11⟩ := bg_rd m1 n5
      generalize tLay c2 14 = c3 at l1 l2 l3 l4 l5 l6 l7 l8 ⊢
      generalize rBegin m1 N' = m' at b1 b2 b3 b4 b5 b6 b7 b8 b9 b10 b11 ⊢
      generalize hc' : jup (jup (jup c3 26 2 0) 0 7 0) 77 3 0 = c'
      have k1 : ∀ a b, (a ≠ 26 ∨ b ≠ 2) → (a ≠ 0 ∨ b ≠ 7) → (a ≠ 77 ∨ b ≠ 3) → c' a b = c3 a b := fun a b h1 h2 h3 => by
        rw [← hc', jup_at, if_neg (by omega), jup_at, if_neg (by omega), jup_at, if_neg (by omega)]
      have k26 : c' 26 2 = 0 := by rw [← hc', jup_oth (by decide), jup_oth (by decide), jup_self]
      have k0 : c' 0 7 = 0 := by rw [← hc', jup_oth (by decide), jup_self]
      have k77 : c' 77 3 = 0 := by rw [← hc', jup_self]
      have kc : ∀ a b, (a < 3 ∨ 19 < a) → (a ≠ 26 ∨ b ≠ 2) → (a ≠ 0 ∨ b ≠ 7) → (a ≠ 77 ∨ b ≠ 3) → c' a b = c a b := fun a b h0 h1 h2 h3 => by
        rw [k1 a b h1 h2 h3, l8 a b (by omega), f2 a b (by omega) (by omega), f1 a b (by omega) (by omega)]
      have kp : ∀ a b, 9 ≤ a → a < 14 → c' a b = c2 a b := fun a b h0 h1 => by rw [k1 a b (by omega) (by omega) (by omega), l8 a b (by omega)]
      have kn : ∀ a b, 14 ≤ a → a < 20 → c' a b = c3 a b := fun a b h0 h1 => k1 a b (by omega) (by omega) (by omega)
      have v0 : c' 9 0 = nI N' := (kp _ _ (by omega) (by omega)).trans p1
      have v1 : m' 165 3 = nI N' := b7.trans p2
      have hPI : PI N' c' := fun k hk => by rw [kp _ _ (by omega) (by omega)]; exact (p4 k hk).2.2.2
      have hfe : ∀ k, k < N' → q_fe c' 14 k = 0 := fun k hk => by
        unfold q_fe
        rw [kn _ _ (by omega) (by omega), l4 k (by omega)]; exact i_n0
      have hst : ∀ k, k < N' → tSt c' 14 k = true := fun k hk => by
        rw [q_st, hfe k hk]
        have := q_mx2 c' k
        omega
      have hth : ∀ k, k < N' → c' (14 + 1) k = c2 11 k := fun k hk => by rw [kn _ _ (by omega) (by omega), l1 k (by omega)]
      have hF : q_F N' 14 c' = 0 := by
        have e : ∀ k, q_f N' 14 c' k = 0 := fun k => by
          unfold q_f
          by_cases w : k < N'
          · rw [if_pos w, hfe k w]
          · rw [if_neg w]
        unfold q_F
        rw [e, e, e, e, e]; rfl
      have hTI : TI N' 14 c' := by
        refine ⟨fun k hk => ?_, fun k hk => ⟨fun _ => ?_, fun w => ?_⟩, fun i hi => ?_, fun k hk => ?_, ?_⟩
        · rw [hfe k hk]
          have := q_mx2 c' k
          omega
        · unfold q_th
          rw [hth k hk]
          have := (p4 k hk).2.2.2
          simp only [show (9 : Nat) + 2 = 11 from rfl] at this
          omega
        · rw [hst k hk] at w; cases w
        · rw [kn _ _ (by omega) (by omega), l5 i hi]; exact (p5 i hi).2
        · rw [kn _ _ (by omega) (by omega), l2 k (by omega), i_n0]; omega
        · unfold q_so
          rw [hF, kn _ _ (by omega) (by omega), l6]
          omega
      have hTR : TR True N' 14 0 c' m' := by
        refine ⟨fun k hk => ?_, fun k hk => ?_, fun k hk => ?_, fun i hi => ?_, fun _ => ⟨?_, ?_, fun k hk => ?_⟩⟩
        · rw [hth k hk, show 0 + 2 + k = 2 + k by omega, (b1 k hk).2.2.2]; exact (p4 k hk).2.1
        · rw [kn _ _ (by omega) (by omega), l2 k (by omega), b4 _ (by omega) (by omega)]
        · rw [kn (14 + 4) k (by omega) (by omega), l4 k (by omega), b4 _ (by omega) (by omega), b4 _ (by omega) (by omega)]
          by_cases w : c' 10 k = 3
          · exact Or.inl ⟨w, Or.inl ⟨rfl, rfl, rfl⟩⟩
          · exact Or.inr ⟨w, rfl, Or.inl ⟨rfl, rfl⟩⟩
        · rw [kn _ _ (by omega) (by omega), l5 i hi, show 0 + 27 + i = 27 + i by omega, b5 i hi]; exact (p5 i hi).1
        · rw [kn _ _ (by omega) (by omega), l6, b2]; exact p6
        · rw [kn _ _ (by omega) (by omega), l7]; exact b3.symm
        · rw [kn _ _ (by omega) (by omega), l3 k (by omega), b4 _ (by omega) (by omega)]
      refine ⟨v0.trans v1.symm, ⟨N', x, 0, 0, 0, tl, ⟨v0, v1, h1N, n5, fun k hk => ?_, fun k hk => ?_, fun k hk => ?_⟩, hPI, ⟨hTR, hTI⟩, ⟨?_, h.2.2.2.1.2.1, k26, b8, by omega, fun i hi => by omega⟩, ⟨k0, b9, by omega, fun i hi => by omega⟩, ⟨k77, b10, by omega, fun i hi => by omega⟩, ?_⟩, fun a b ha => kc a b (by omega) (by omega) (by omega) (by omega), fun a b ha => (b11 a b (by omega)).trans (g1 a b (by unfold RF; omega))⟩
      · rw [kp _ _ (by omega) (by omega), (b1 k hk).1]; exact (p4 k hk).1
      · rw [kp _ _ (by omega) (by omega), (b1 k hk).2.1]; exact (p4 k hk).2.1
      · rw [kp _ _ (by omega) (by omega), (b1 k hk).2.2.1]; exact (p4 k hk).2.2.1
      · exact (kc 26 1 (by omega) (by omega) (by omega) (by omega)).trans h.2.2.2.1.1
      · exact h.2.2.2.2.2.2.keep (fun a b ha => kc a b (by omega) (by omega) (by omega) (by omega)) ((b11 _ _ (by omega)).trans (g1 _ _ (by unfold RF; omega))) (fun y => (b11 _ _ (by omega)).trans (g1 _ _ (by unfold RF; omega)))
  · have z' : ¬ (rFo m).1 = -4 := fun w => z (r4.1.trans w)
    rw [if_neg (fun w => z w.1), if_neg (fun w => z' w.1)]
    exact asks _
