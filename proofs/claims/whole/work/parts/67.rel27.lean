theorem go_sim {p : Nat} {c0 : jMem} : ∀ (f dp : Nat) (tr : Int32) (c : jMem) (ν : jNu) (B : Int32) (m : jMem) (O : Int64 → Int → Prop), f + dp = 11 → GN p (87 + 6 * dp) (624 + 52 * dp) c m → VD p c0 c (87 + 6 * dp) → (dp : Int) ≤ q_F p (87 + 6 * dp) c → m 179 dp = tr → 0 ≤ tr.toInt → tr.toInt ≤ 9 * dp → (∀ j, j < dp → c 83 j = m 178 j) → BR c B m → MV p c0 (c, ν) (c 81 7).toInt O →
    (∀ mk b, O mk b → ∀ c' a', VV p c0 c' a' → oMk c' a' p = mk → q_F p a' c' < q_F p (87 + 6 * dp) c) →
    ∃ B' m', rBoF p f dp (B, m) = some (B', m') ∧ CFr dp c (oGo p f dp tr (c, ν)).1 ∧ RFr dp m m' ∧ BR (oGo p f dp tr (c, ν)).1 B' m' ∧ MV p c0 (oGo p f dp tr (c, ν)) ((oGo p f dp tr (c, ν)).1 81 7).toInt O ∧ ((oGo p f dp tr (c, ν)).1 81 7).toInt ≤ (c 81 7).toInt ∧ dn p (87 + 6 * dp) c tr.toInt ((oGo p f dp tr (c, ν)).1 81 7).toInt
  | 0, dp, tr, c, ν, B, m, O, hf, hG, hv, hF, ht, h0, h9, hpath, hB, hM, hO => by
    have := q_F10 (c := c) (a := 87 + 6 * dp) hG.2.2.2.1.1
    omega
  | f + 1, dp, tr, c, ν, B, m, O, hf, hG, hv, hF, ht, h0, h9, hpath, hB, hM, hO => by
    have hp := hG.1.p5
    have hrng := hB.rng
    have hF10 := q_F10 (c := c) (a := 87 + 6 * dp) hG.2.2.2.1.1
    generalize hS : oGo p (f + 1) dp tr (c, ν) = S
    rw [oGo] at hS
    dsimp only at hS
    by_cases z : tCD c (87 + 6 * dp) p = nI p
    · rw [if_pos (z.trans hG.1.cp.symm)] at hS
      rw [rBoF, ← hG.2.2.1.cd hp, if_pos z]
      dsimp only
      by_cases y : tr < c 81 7
      · rw [if_pos (show m 179 dp < B by rw [ht]; exact (hB.lt (by omega)).mp y)]
        obtain ⟨k1, k2, k3, k4⟩ := kp_rd (dp := dp) y
        obtain ⟨q1, q2, q3⟩ := bol_rd (m := m) (dp := dp)
        rw [i_lt] at y
        subst hS
        dsimp only
        rw [k1]
        refine ⟨m 179 dp, rBoL m dp, rfl, fun a b hx => k4 a b (by omega) (by omega), ⟨fun a b h1 _ _ h2 h3 _ _ => q3 a b h2 h3, fun b _ => q3 _ _ (by decide) (by omega)⟩, Or.inr ⟨k1.trans ht.symm, by rw [ht]; exact h0, by rw [ht]; omega, dp, by omega, k2, q1, fun j hj => ?_⟩, fun j hj hn => ?_, by omega, fun l k _ => by omega⟩
        · rw [k3 j hj, q2 j hj]; exact hpath j hj
        · have e86 : (oKp c dp tr) 86 j = c 86 j := k4 _ _ (by decide) (by omega)
          dsimp only
          rw [e86]
          rcases hM j hj hn with w | w
          · exact Or.inl w
          · exact Or.inr (fun c' a' h1 h2 => dn_le (w c' a' h1 h2) (Int.le_refl _) (by omega))
      · rw [if_neg (show ¬ m 179 dp < B by rw [ht]; exact fun w => y ((hB.lt (by omega)).mpr w))]
        have e : oKp c dp tr = c := by unfold oKp; rw [if_neg y]
        rw [e] at hS
        subst hS
        rw [i_lt] at y
        exact ⟨B, m, rfl, fun _ _ _ => rfl, ⟨fun _ _ _ _ _ _ _ _ _ => rfl, fun _ _ => rfl⟩, hB, hM, Int.le_refl _, fun l k _ => by dsimp only; omega⟩
    · rw [if_neg (fun w => z (w.trans hG.1.cp))] at hS
      obtain ⟨ks, ks1, ks2⟩ := not_all z
      have hF9 := F_top hG.2.2.2.1.1 hp ks1 ks2
      have hdp : dp ≤ 9 := by omega
      rw [if_neg (by omega)] at hS
      have hself : VV p c0 c (87 + 6 * dp) := ⟨hv, hG.2.2.2.1, hG.2.1, by omega⟩
      have hmk := mk_ne0 hp hG.1.p1 hG.2.2.2.1
      rcases osn_spec (oMk c (87 + 6 * dp) p) tr 32 0 (c, ν) with ⟨o1, o2, j, j1, j2, j3⟩ | ⟨o1, o2⟩
      · rw [if_pos o1, o2] at hS
        subst hS
        dsimp only at j2 j3
        have hd : dn p (87 + 6 * dp) c tr.toInt (c 81 7).toInt := by
          rcases hM j j1 (by dsimp only; rw [j2]; exact hmk) with w | w
          · have := hO _ _ w c (87 + 6 * dp) hself j2.symm
            omega
          · rw [i_le] at j3
            exact dn_le (w c (87 + 6 * dp) hself j2.symm) j3 (Int.le_refl _)
        have hdB : dn p (87 + 6 * dp) c tr.toInt B.toInt := by
          rcases hB with ⟨b1, b2⟩ | ⟨b1, -⟩
          · intro l k e
            have a1 := hd l k e
            have a2 := sq_bd l c m k hG e
            rw [b1, i_n1000.1] at a1
            omega
          · rw [← b1]; exact hd
        obtain ⟨m', d1, d2, d3⟩ := ref_done (f + 1) dp c m (87 + 6 * dp) B tr hf hG hF ht h0 h9 hdB
        exact ⟨B, m', d1, fun _ _ _ => rfl, ⟨fun a b h1 h2 h3 _ _ h6 h7 => d2 a b h1 h2 h3 h6 h7, d3⟩, hB.keep (fun _ => rfl) (fun _ => rfl) (d2 _ _ (by decide) (by decide) (by decide) (by omega) (by omega)) (fun y => d2 _ _ (by decide) (by decide) (by decide) (by omega) (by omega)), hM, Int.le_refl _, hd⟩
      · rw [o1, b_f] at hS
        generalize (oSn (oMk c (87 + 6 * dp) p) tr 32 0 (c, ν)).2 = s1 at o2 hS
        have hs1 : (∀ x y, x ≠ 86 → s1.1 x y = c x y) ∧ MV p c0 s1 (c 81 7).toInt (fun mk b => O mk b ∨ (mk = oMk c (87 + 6 * dp) p ∧ b = tr.toInt)) := by
          rcases o2 with rfl | ⟨j, j1, rfl⟩
          · exact ⟨fun _ _ _ => rfl, fun j hj hn => (hM j hj hn).imp Or.inl id⟩
          · refine ⟨fun x y hx => jup_oth hx, fun i hi hn => ?_⟩
            dsimp only at hn ⊢
            by_cases e : i = j
            · subst e
              rw [jup_self, jup_self]
              exact Or.inl (Or.inr ⟨rfl, rfl⟩)
            · rw [jup_oth2 e] at hn
              rw [jup_oth2 e, jup_oth2 e]
              exact (hM i hi hn).imp Or.inl id
        obtain ⟨hs2, hs3⟩ := hs1
        obtain ⟨t', e1, r1, r2, r3, r4, r5, r6⟩ := it_itO (f := oBd p f dp tr) (g := rBoS p (rBoF p f) dp) (p := p) (fun i s t => CFr dp c s.1 ∧ RFr dp m t.2 ∧ BR s.1 t.1 t.2 ∧ MV p c0 s (s.1 81 7).toInt (fun mk b => O mk b ∨ (mk = oMk c (87 + 6 * dp) p ∧ b = tr.toInt)) ∧ (s.1 81 7).toInt ≤ (c 81 7).toInt ∧ (∀ w, w < i → ∀ l k, sq p (87 + 6 * dp) (w :: l) c = some k → (s.1 81 7).toInt ≤ tr.toInt + k)) (fun i s t hi hr => by
          obtain ⟨r1, r2, r3, r4, r5, r6⟩ := hr
          obtain ⟨ci, νi⟩ := s
          obtain ⟨Bi, mi⟩ := t
          dsimp only at r1 r2 r3 r4 r5 r6
          have hGm : GN p (87 + 6 * dp) (624 + 52 * dp) c mi := hG.ref (r2.1 _ _ (by decide) (by decide) (by decide) (by decide) (by omega) (by omega) (by omega)) (fun x y h1 h2 => r2.1 x y (by omega) (by omega) (by omega) (by omega) (by omega) (by omega) (by omega)) (fun y _ _ => r2.2 y (by omega))
          have hGi : GN p (87 + 6 * dp) (624 + 52 * dp) ci mi := hGm.cls (fun x y hx => r1 x y (by omega))
          have hVi : VD p c0 ci (87 + 6 * dp) := hv.cls (fun x y hx => r1 x y (by omega))
          have hFi : q_F p (87 + 6 * dp) ci = q_F p (87 + 6 * dp) c := q_Feq (fun k hk => r1 _ _ (by omega))
          have e179 : mi 179 dp = tr := (r2.1 _ _ (by decide) (by decide) (by decide) (by decide) (by omega) (by omega) (by omega)).trans ht
          have hrngi := r3.rng
          unfold oBd rBoS
          dsimp only
          rw [← hGi.2.2.1.st hi, ← hGi.2.2.1.calls hi]
          have hsum : ¬ tFew ci (87 + 6 * dp) i = -4 → (tr + tFew ci (87 + 6 * dp) i).toInt = tr.toInt + (tFew ci (87 + 6 * dp) i).toInt ∧ (tr + tFew ci (87 + 6 * dp) i).toInt < 1000 := fun hn => by
            have hfp := few_pos hn
            have es : (tr + tFew ci (87 + 6 * dp) i).toInt = tr.toInt + (tFew ci (87 + 6 * dp) i).toInt := i_add (by omega) (by omega)
            exact ⟨es, by omega⟩
          have ec : (tSt ci (87 + 6 * dp) i = true ∧ ¬ tFew ci (87 + 6 * dp) i = -4 ∧ tr + tFew ci (87 + 6 * dp) i < ci 81 7) ↔ (tSt ci (87 + 6 * dp) i = true ∧ ¬ tFew ci (87 + 6 * dp) i = -4 ∧ mi 179 dp + tFew ci (87 + 6 * dp) i < Bi) := by
            rw [e179]
            exact ⟨fun w => ⟨w.1, w.2.1, (r3.lt (hsum w.2.1).2).mp w.2.2⟩, fun w => ⟨w.1, w.2.1, (r3.lt (hsum w.2.1).2).mpr w.2.2⟩⟩
          by_cases y : tSt ci (87 + 6 * dp) i = true ∧ ¬ tFew ci (87 + 6 * dp) i = -4 ∧ tr + tFew ci (87 + 6 * dp) i < ci 81 7
          · rw [if_pos y, if_pos (ec.mp y)]
            obtain ⟨m3, E, g1, g2, g3, g4, g5, g6, g7, g8, g9, g10⟩ := child_cls hdp hGi hVi hi y.1 y.2.1
            rw [E]
            have hfp := few_pos y.2.1
            have hs := hsum y.2.1
            generalize tBlM (tCp (jup ci 83 dp (nI i)) (87 + 6 * (dp + 1)) (87 + 6 * dp)) (87 + 6 * (dp + 1)) p i (tFew ci (87 + 6 * dp) i) = cc at g1 g2 g8 g9 g10 ⊢
            have e81 : cc 81 7 = ci 81 7 := g9 _ _ (by omega) (by omega)
            have hMc : MV p c0 (cc, νi) (cc 81 7).toInt (fun mk b => O mk b ∨ (mk = oMk c (87 + 6 * dp) p ∧ b = tr.toInt)) := fun j hj hn => by
              have e86 : cc 86 j = ci 86 j := g9 _ _ (by omega) (by omega)
              dsimp only
              rw [e86, e81]
              exact r4 j hj hn
            obtain ⟨B2, m4, x1, x2, x3, x4, x5, x6, x7⟩ := go_sim f (dp + 1) (tr + tFew ci (87 + 6 * dp) i) cc νi Bi m3 (fun mk b => O mk b ∨ (mk = oMk c (87 + 6 * dp) p ∧ b = tr.toInt)) (by omega) g1 g2 (by omega) (g4.trans (by rw [e179])) (by omega) (by omega) (fun j hj => by
                by_cases w : j = dp
                · rw [w, g10, g5]
                · rw [g9 _ _ (by omega) (by omega), r1 _ _ (by omega), hpath j (by omega), g6 _ _ (by decide) (by decide) (by decide) (by omega) (by omega), r2.1 _ _ (by decide) (by decide) (by decide) (by decide) (by omega) (by omega) (by omega)])
              (r3.keep (fun v => g9 _ _ (by omega) (by omega)) (fun v => g9 _ _ (by omega) (by omega)) (g6 _ _ (by decide) (by decide) (by decide) (by omega) (by omega)) (fun v => g6 _ _ (by decide) (by decide) (by decide) (by omega) (by omega))) hMc (fun mk b hOb c' a' hV he => by
                rcases hOb with w | ⟨w, -⟩
                · have := hO mk b w c' a' hV he
                  omega
                · have := (vv_gn hG hv hV (he.trans w)).2
                  omega)
            refine ⟨(B2, m4), x1, fun a b hx => ?_, ⟨fun a b h1 h2 h3 h4 h5 h6 h7 => ?_, fun b hb => ?_⟩, x4, x5, by rw [e81] at x6; omega, fun w hw l k e => ?_⟩
            · rw [x2 a b (by omega), g9 a b (by omega) (by omega), r1 a b hx]
            · exact (x3.1 a b h1 h2 h3 h4 h5 (by omega) (by omega)).trans ((g6 a b h1 h2 h3 h6 h7).trans (r2.1 a b h1 h2 h3 h4 h5 h6 h7))
            · exact (x3.2 b (by omega)).trans ((g7 b hb).trans (r2.2 b hb))
            · by_cases q : w = i
              · subst q
                rw [sq_cong (w :: l) c ci _ _ _ mi hGm hGi, sq, if_pos ⟨hi, y.1, y.2.1⟩] at e
                cases es : sq p (87 + 6 * dp) l (tBlM ci (87 + 6 * dp) p w (tFew ci (87 + 6 * dp) w)) with
                | none => rw [es] at e; cases e
                | some k' =>
                  rw [es] at e
                  have e' : (tFew ci (87 + 6 * dp) w).toNatClampNeg + k' = k := Option.some.inj e
                  have := x7 l k' ((sq_cong l _ _ _ _ _ m3 g3 g1).symm.trans es)
                  omega
              · have := r6 w (by omega) l k e
                rw [e81] at x6
                omega
          · rw [if_neg y, if_neg (fun w => y (ec.mpr w))]
            refine ⟨_, rfl, r1, r2, r3, r4, r5, fun w hw l k e => ?_⟩
            by_cases q : w = i
            · subst q
              rw [sq_cong (w :: l) c ci _ _ _ mi hGm hGi, sq] at e
              by_cases v : w < p ∧ tSt ci (87 + 6 * dp) w = true ∧ ¬ tFew ci (87 + 6 * dp) w = -4
              · rw [if_pos v] at e
                have hfp := few_pos v.2.2
                have hs := hsum v.2.2
                have hn : ¬ tr + tFew ci (87 + 6 * dp) w < ci 81 7 := fun u => y ⟨v.2.1, v.2.2, u⟩
                rw [i_lt] at hn
                cases es : sq p (87 + 6 * dp) l (tBlM ci (87 + 6 * dp) p w (tFew ci (87 + 6 * dp) w)) with
                | none => rw [es] at e; cases e
                | some k' =>
                  rw [es] at e
                  have e' : (tFew ci (87 + 6 * dp) w).toNatClampNeg + k' = k := Option.some.inj e
                  dsimp only
                  omega
              · rw [if_neg v] at e; cases e
            · exact r6 w (by omega) l k e) p 0 s1 (B, m) (by omega) ⟨fun x y hx => hs2 x y (by omega), ⟨fun _ _ _ _ _ _ _ _ _ => rfl, fun _ _ => rfl⟩, hB.keep (fun y => hs2 _ _ (by decide)) (fun y => hs2 _ _ (by decide)) rfl (fun _ => rfl), by rw [hs2 _ _ (by decide)]; exact hs3, by rw [hs2 _ _ (by decide)]; exact Int.le_refl _, fun w hw => by omega⟩
        have hS2 : it (oBd p f dp tr) p 0 s1 = S := hS
        rw [hS2] at r1 r3 r4 r5 r6
        have hd : dn p (87 + 6 * dp) c tr.toInt (S.1 81 7).toInt := fun l k e => by
          cases l with
          | nil => rw [sq, if_neg z] at e; cases e
          | cons w l =>
            have hw : w < p := by
              apply Classical.byContradiction
              intro q
              rw [sq, if_neg (fun v => q v.1)] at e
              cases e
            exact r6 w hw l k e
        rw [rBoF, ← hG.2.2.1.cd hp, if_neg z, e1]
        refine ⟨_, _, rfl, r1, ⟨fun a b h1 h2 h3 h4 h5 h6 h7 => ?_, fun b hb => ?_⟩, ?_, fun j hj hn => ?_, r5, hd⟩
        · rw [jup_at, if_neg (by omega)]; exact r2.1 a b h1 h2 h3 h4 h5 h6 h7
        · rw [jup_oth (by decide)]; exact r2.2 b hb
        · exact r3.keep (fun _ => rfl) (fun _ => rfl) (jup_oth (by decide)) (fun _ => jup_oth (by decide))
        · rcases r4 j hj hn with (w | ⟨w1, w2⟩) | w
          · exact Or.inl w
          · refine Or.inr (fun c' a' hV he => ?_)
            rw [w2]
            exact dn_cong hG (vv_gn hG hv hV (he.trans w1)).1 hd
          · exact Or.inr w
