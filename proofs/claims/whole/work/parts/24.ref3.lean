theorem rAddW_lo (m : jMem) (n : Nat) (k t l : Int32) {x y : Nat} (h : x ≠ 174) (h2 : x ≠ 165 ∨ y ≠ 15) : rAddW m n k t l x y = m x y := by
  simp only [rAddW]
  rcases h2 with z | z
  · rw [jup_oth z, jup_oth h, jup_oth h, jup_oth h]
  · rw [jup_oth2 z, jup_oth h, jup_oth h, jup_oth h]
theorem rAddW_15 (m : jMem) (n : Nat) (k t l : Int32) : rAddW m n k t l 165 15 = m 165 15 + 1 := by
  simp only [rAddW]
  rw [jup_self, jup_oth (by decide), jup_oth (by decide), jup_oth (by decide)]
/-- what holds of a reading: the text's length, the persons read, and, where it went well, the place -/
def rRd (tl : Nat) (pl : Nat) (q : Option Nat × jMem) : Prop := q.2 165 12 = nI tl ∧ (∃ n, n ≤ 5 ∧ q.2 165 15 = nI n) ∧ ∀ p, q.1 = some p → q.2 165 13 = nI p ∧ pl < p ∧ p ≤ pl + 9
theorem rTn_rd {m : jMem} {l h sg : Int32} {pl tl n : Nat} (hp : m 165 13 = nI pl) (hl : m 165 12 = nI tl) (hn : m 165 15 = nI n) : ∀ {r : Option Nat} {a : jMem}, rTn m l h sg pl = (r, a) → a 165 12 = nI tl ∧ a 165 15 = nI n ∧ ∀ p, r = some p → a 165 13 = nI p ∧ pl < p ∧ p ≤ pl + 3 := by
  intro r a e
  refine ⟨(rTn_keep hp e (Or.inr ⟨by decide, by decide⟩)).trans hl, (rTn_keep hp e (Or.inr ⟨by decide, by decide⟩)).trans hn, fun p hr => ?_⟩
  subst hr
  obtain ⟨h1, h2, h3, -⟩ := rTn_pl hp e
  exact ⟨h1, h2, h3⟩
theorem rTW_rd {m : jMem} {pl tl n : Nat} (hp : m 165 13 = nI pl) (hl : m 165 12 = nI tl) (hn : m 165 15 = nI n) (hn5 : n ≤ 5) : rRd tl pl (rTW m pl) := by
  unfold rTW
  split
  · exact ⟨hl, ⟨n, hn5, hn⟩, fun p h => by cases h⟩
  · next h5 =>
    have hn4 := ne5_of hn h5 hn5
    obtain ⟨r, a, e⟩ : ∃ r a, rTn m 0 3 44 pl = (r, a) := ⟨_, _, rfl⟩
    rw [e]
    obtain ⟨al, an, ap⟩ := rTn_rd hp hl hn e
    cases r with
    | none => exact ⟨al, ⟨n, hn5, an⟩, fun p h => by cases h⟩
    | some pa =>
      obtain ⟨a13, a1, a2⟩ := ap pa rfl
      show rRd tl pl (rTW2 _ _ (rTn a 1 60 44 pa))
      obtain ⟨r, b, e⟩ : ∃ r b, rTn a 1 60 44 pa = (r, b) := ⟨_, _, rfl⟩
      rw [e]
      obtain ⟨bl, bn, bp⟩ := rTn_rd a13 al an e
      cases r with
      | none => exact ⟨bl, ⟨n, hn5, bn⟩, fun p h => by cases h⟩
      | some pb =>
        obtain ⟨b13, b1, b2⟩ := bp pb rfl
        show rRd tl pl (rTW3 _ _ _ (rTn b 0 7 59 pb))
        obtain ⟨r, c, e⟩ : ∃ r c, rTn b 0 7 59 pb = (r, c) := ⟨_, _, rfl⟩
        rw [e]
        obtain ⟨cl, cn, cp⟩ := rTn_rd b13 bl bn e
        cases r with
        | none => exact ⟨cl, ⟨n, hn5, cn⟩, fun p h => by cases h⟩
        | some pc =>
          obtain ⟨c13, c1, c2⟩ := cp pc rfl
          refine ⟨?_, ⟨n + 1, by omega, ?_⟩, fun p h => ?_⟩
          · dsimp only [rTW3]; rw [rAddW_lo _ _ _ _ _ (by decide) (Or.inr (by decide))]; exact cl
          · dsimp only [rTW3]; rw [rAddW_15, cn, nI_1]
          · have : pc = p := Option.some.inj h
            subst this
            refine ⟨?_, by omega, by omega⟩
            dsimp only [rTW3]; rw [rAddW_lo _ _ _ _ _ (by decide) (Or.inr (by decide))]; exact c13
theorem rTP_rd {m : jMem} {pl tl n : Nat} (hp : m 165 13 = nI pl) (hl : m 165 12 = nI tl) (hn : m 165 15 = nI n) (hn5 : n ≤ 5) : rRd tl pl (rTP m pl) := by
  unfold rTP
  obtain ⟨r, a, e⟩ : ∃ r a, rTn m 0 (m 165 15 - 1) 44 pl = (r, a) := ⟨_, _, rfl⟩
  rw [e]
  obtain ⟨al, an, ap⟩ := rTn_rd hp hl hn e
  cases r with
  | none => exact ⟨al, ⟨n, hn5, an⟩, fun p h => by cases h⟩
  | some pa =>
    obtain ⟨a13, a1, a2⟩ := ap pa rfl
    show rRd tl pl (rTP2 _ (rTn a 0 (a 165 15 - 1) 44 pa))
    obtain ⟨r, b, e⟩ : ∃ r b, rTn a 0 (a 165 15 - 1) 44 pa = (r, b) := ⟨_, _, rfl⟩
    rw [e]
    obtain ⟨bl, bn, bp⟩ := rTn_rd a13 al an e
    cases r with
    | none => exact ⟨bl, ⟨n, hn5, bn⟩, fun p h => by cases h⟩
    | some pb =>
      obtain ⟨b13, b1, b2⟩ := bp pb rfl
      show rRd tl pl (if b 165 14 = a 165 14 then (none, b) else rTP3 a b (rTn b 1 40 59 pb))
      split
      · exact ⟨bl, ⟨n, hn5, bn⟩, fun p h => by cases h⟩
      · obtain ⟨r, c, e⟩ : ∃ r c, rTn b 1 40 59 pb = (r, c) := ⟨_, _, rfl⟩
        rw [e]
        obtain ⟨cl, cn, cp⟩ := rTn_rd b13 bl bn e
        cases r with
        | none => exact ⟨cl, ⟨n, hn5, cn⟩, fun p h => by cases h⟩
        | some pc =>
          obtain ⟨c13, c1, c2⟩ := cp pc rfl
          refine ⟨?_, ⟨n, hn5, ?_⟩, fun p h => ?_⟩
          · dsimp only [rTP3]; rw [jup_oth (by decide)]; exact cl
          · dsimp only [rTP3]; rw [jup_oth (by decide)]; exact cn
          · have : pc = p := Option.some.inj h
            subst this
            refine ⟨?_, by omega, by omega⟩
            dsimp only [rTP3]; rw [jup_oth (by decide)]; exact c13
theorem rTS_rd {m : jMem} {pl tl n : Nat} (hp : m 165 13 = nI pl) (hl : m 165 12 = nI tl) (hn : m 165 15 = nI n) (hn5 : n ≤ 5) : rRd tl pl (rTS m pl) := by
  unfold rTS
  obtain ⟨r, a, e⟩ : ∃ r a, rTn m 0 60 59 pl = (r, a) := ⟨_, _, rfl⟩
  rw [e]
  obtain ⟨al, an, ap⟩ := rTn_rd hp hl hn e
  cases r with
  | none => exact ⟨al, ⟨n, hn5, an⟩, fun p h => by cases h⟩
  | some pa =>
    obtain ⟨a13, a1, a2⟩ := ap pa rfl
    refine ⟨?_, ⟨n, hn5, ?_⟩, fun p h => ?_⟩
    · dsimp only [rTS1]; rw [jup_oth2 (by decide)]; exact al
    · dsimp only [rTS1]; rw [jup_oth2 (by decide)]; exact an
    · have : pa = p := Option.some.inj h
      subst this
      refine ⟨?_, by omega, by omega⟩
      dsimp only [rTS1]; rw [jup_oth2 (by decide)]; exact a13
theorem rItem_rd {m : jMem} {pl tl n : Nat} (hp : m 165 13 = nI pl) (hl : m 165 12 = nI tl) (hn : m 165 15 = nI n) (hn5 : n ≤ 5) : rRd tl (pl + 1) (rItem m pl) := by
  have h1 : jup m 165 13 (m 165 13 + 1) 165 13 = nI (pl + 1) := by rw [jup_self, hp, nI_1]
  have h2 : jup m 165 13 (m 165 13 + 1) 165 12 = nI tl := by rw [jup_oth2 (by decide)]; exact hl
  have h3 : jup m 165 13 (m 165 13 + 1) 165 15 = nI n := by rw [jup_oth2 (by decide)]; exact hn
  simp only [rItem]
  split
  · exact rTW_rd h1 h2 h3 hn5
  · split
    · exact rTP_rd h1 h2 h3 hn5
    · split
      · exact rTS_rd h1 h2 h3 hn5
      · exact ⟨h2, ⟨n, hn5, h3⟩, fun p h => by cases h⟩
def rFo1 (g : Nat → jMem → Int32 × jMem) (pl : Nat) : Option Nat × jMem → Int32 × jMem
  | (none, a) => (nI pl, a)
  | (some p, a) => g p a
def rFoL : Nat → Nat → jMem → Int32 × jMem
  | 0, _, m => (-4, m)
  | n + 1, pl, m => if nI pl < m 165 12 then rFo1 (rFoL n) pl (rItem m pl) else (-4, m)
def rFo (m : jMem) : Int32 × jMem := rFoL 201 0 (jup (rStart m) 165 13 0)
theorem rFoL_rd {tl : Nat} : ∀ (n pl : Nat) (m : jMem), m 165 13 = nI pl → m 165 12 = nI tl → (∃ k, k ≤ 5 ∧ m 165 15 = nI k) → (rFoL n pl m).2 165 12 = nI tl ∧ ∃ k, k ≤ 5 ∧ (rFoL n pl m).2 165 15 = nI k
  | 0, pl, m, hp, hl, hk => ⟨hl, hk⟩
  | n + 1, pl, m, hp, hl, hk => by
    obtain ⟨k, hk5, hk⟩ := hk
    rw [rFoL]
    split
    · have h := rItem_rd hp hl hk hk5
      obtain ⟨r, a, e⟩ : ∃ r a, rItem m pl = (r, a) := ⟨_, _, rfl⟩
      rw [e] at h ⊢
      obtain ⟨h1, h2, h3⟩ := h
      cases r with
      | none => exact ⟨h1, h2⟩
      | some p => exact rFoL_rd n p a (h3 p rfl).1 h1 h2
    · exact ⟨hl, k, hk5, hk⟩
theorem rStart_lo (m : jMem) {x y : Nat} (h : x ≠ 175) (h2 : x ≠ 165 ∨ (y ≠ 15 ∧ y ≠ 18)) : rStart m x y = m x y := by
  unfold rStart
  rw [it_lo (fun i m => jup_oth h)]
  rcases h2 with z | ⟨z1, z2⟩
  · rw [jup_oth z, jup_oth z]
  · rw [jup_oth2 z2, jup_oth2 z1]
theorem rStart_15 (m : jMem) : rStart m 165 15 = nI 0 := by
  unfold rStart
  rw [it_lo (fun i m => jup_oth (by decide)), jup_oth2 (by decide), jup_self]
  rfl
theorem rFo_rd {tl : Nat} {m : jMem} (hl : m 165 12 = nI tl) : (rFo m).2 165 12 = nI tl ∧ ∃ k, k ≤ 5 ∧ (rFo m).2 165 15 = nI k :=
  rFoL_rd 201 0 _ (by rw [jup_self]; rfl) (by rw [jup_oth2 (by decide), rStart_lo m (by decide) (Or.inr ⟨by decide, by decide⟩)]; exact hl) ⟨0, by decide, by rw [jup_oth2 (by decide)]; exact rStart_15 m⟩
set_option maxRecDepth 20000 in
theorem lr_fo {G : jG} {N : Nat} {κ : Nat → jK} {ρ : Nat → Nat → Option Nat} {ν : Nat → Nat → Int64} {Q : Option Value → jH → Prop} {d : Nat} (hd1 : 4 ≤ d) (hr : shR N κ ρ) {tl : Nat} (htl : tl ≤ 200) : ∀ (n pl k : Nat) (m : jMem) (x1 : Option Value), tl + 1 ≤ pl + n → pl ≤ 300 → m 165 13 = nI pl → m 165 12 = nI tl → m 165 15 = nI k → k ≤ 5 → Q (some (.int (rFoL n pl m).1)) (N, κ, ρ, (rFoL n pl m).2, ν) → J G RX7 cX7_faultOf 2 false d Q 0 0 (N, κ, ρ, m, ν) 9 [some (.ref 165), x1] []
  | 0, pl, k, m, x1, hi, hpl, h13, hl, hk, hk5, hQ => by
    refine j_aload_n dX7_faultOf_9 rfl ?_
    refine j_geti dX7_faultOf_10 fl_X7_95 rfl (o_165 hr) ?_
    refine j_topi h13 ?_
    refine j_aload_n dX7_faultOf_13 rfl ?_
    refine j_geti dX7_faultOf_14 fl_X7_92 rfl (o_165 hr) ?_
    refine k_icmp_ge (tgt := 37) dX7_faultOf_17 (by decide) (fun c17 c17' => ?_) (fun c17 c17' => ?_)
    · skip
      refine j_bipush (v := (-4)) dX7_faultOf_37 (by decide) ?_
      exact j_iret dX7_faultOf_39 hQ
    · skip
      exact absurd (by rw [hl]; exact nI_le (by omega) (by omega)) c17
  | n + 1, pl, k, m, x1, hi, hpl, h13, hl, hk, hk5, hQ => by
    rw [rFoL] at hQ
    refine j_aload_n dX7_faultOf_9 rfl ?_
    refine j_geti dX7_faultOf_10 fl_X7_95 rfl (o_165 hr) ?_
    refine j_topi h13 ?_
    refine j_aload_n dX7_faultOf_13 rfl ?_
    refine j_geti dX7_faultOf_14 fl_X7_92 rfl (o_165 hr) ?_
    refine k_icmp_ge (tgt := 37) dX7_faultOf_17 (by decide) (fun c17 c17' => ?_) (fun c17 c17' => ?_)
    · skip
      rw [if_neg c17'] at hQ
      refine j_bipush (v := (-4)) dX7_faultOf_37 (by decide) ?_
      exact j_iret dX7_faultOf_39 hQ
    · skip
      rw [if_pos c17'] at hQ
      have hlt : pl < tl := lt_of_nI hl c17' (by omega) (by omega)
      refine j_aload_n dX7_faultOf_20 rfl ?_
      refine j_geti dX7_faultOf_21 fl_X7_95 rfl (o_165 hr) ?_
      refine j_topi h13 ?_
      refine j_istore_1 dX7_faultOf_24 rfl ?_
      refine j_aload_n dX7_faultOf_25 rfl ?_
      have hrd := rItem_rd h13 hl hk hk5
      obtain ⟨r, a, er⟩ : ∃ r a, rItem m pl = (r, a) := ⟨_, _, rfl⟩
      have hmt := r_item (G := G) (ν := ν) hr hl htl h13 (by omega) hk hk5
      rw [er] at hQ hrd hmt
      obtain ⟨a12, ⟨k2, hk25, a15⟩, ap⟩ := hrd
      refine j_cV0r dX7_faultOf_26 hmt ml_X7_123 my_X7_takesItem mi_X7_takesItem (o_165 hr) rfl (by omega) (Nat.le_of_ble_eq_true rfl) (Nat.le_of_ble_eq_true rfl) ?_
      refine j_if_neB (tgt := 34) dX7_faultOf_29 (by decide) (fun c29 => ?_) (fun c29 => ?_)
      · skip
        obtain ⟨p2, rfl⟩ := Option.isSome_iff_exists.mp c29
        obtain ⟨a13, ap1, ap2⟩ := ap p2 rfl
        refine j_goto (tgt := 9) dX7_faultOf_34 (by decide) ?_
        exact lr_fo hd1 hr htl n p2 k2 a _ (by omega) (by omega) a13 a12 a15 hk25 hQ
      · skip
        have r0 : r = none := by cases r with | none => rfl | some _ => cases c29
        subst r0
        refine j_iload_n dX7_faultOf_32 rfl ?_
        exact j_iret dX7_faultOf_33 hQ

set_option maxRecDepth 20000 in
theorem r_fo {G : jG} {N : Nat} {κ : Nat → jK} {ρ : Nat → Nat → Option Nat} {μ : Nat → Nat → Int32} {ν : Nat → Nat → Int64} (hr : shR N κ ρ) {tl : Nat} (hl : μ 165 12 = nI tl) (htl : tl ≤ 200) : MT G yX7_faultOf cX7_faultOf 2 (some .int) 4 0 0 [.ref 165] (N, κ, ρ, μ, ν) (some (.int (rFo μ).1)) (N, κ, ρ, (rFo μ).2, ν) := by
  refine jMT (ini := false) my_X7_faultOf (fun h => by cases h) (jRv_i _) (Nat.le_of_ble_eq_true rfl) ?_
  show J G RX7 cX7_faultOf 2 false 4 _ 0 0 (N, κ, ρ, μ, ν) 0 [some (.ref 165), none] []
  generalize hQe : (fun (v' : Option Value) (h'' : jH) => v' = (some (.int (rFo μ).1)) ∧ h'' = (N, κ, ρ, (rFo μ).2, ν)) = Q
  have hQ : Q (some (.int (rFo μ).1)) (N, κ, ρ, (rFo μ).2, ν) := by rw [← hQe]; exact ⟨rfl, rfl⟩
  clear hQe
  refine j_aload_n dX7_faultOf_0 rfl ?_
  refine j_cV0v dX7_faultOf_1 (r_starts hr) ml_X7_55 my_X7_starts mi_X7_starts (o_165 hr) rfl (by omega) (Nat.le_of_ble_eq_true rfl) (Nat.le_of_ble_eq_true rfl) ?_
  refine j_aload_n dX7_faultOf_4 rfl ?_
  refine j_iconst (v := 0) dX7_faultOf_5 (by decide) ?_
  refine j_puti dX7_faultOf_6 fl_X7_95 rfl (o_165 hr) ?_
  exact lr_fo (by omega) hr htl 201 0 0 (jup (rStart μ) 165 13 0) none (by omega) (by omega) (by rw [jup_self]; rfl) (by rw [jup_oth2 (by decide), rStart_lo μ (by decide) (Or.inr ⟨by decide, by decide⟩)]; exact hl) (by rw [jup_oth2 (by decide)]; exact rStart_15 μ) (by decide) hQ

set_option maxRecDepth 20000 in
theorem r_fault {G : jG} {N : Nat} {κ : Nat → jK} {ρ : Nat → Nat → Option Nat} {μ : Nat → Nat → Int32} {ν : Nat → Nat → Int64} (hr : shR N κ ρ) {tl : Nat} (hl : μ 165 12 = nI tl) (htl : tl ≤ 200) : MT G yX7_fault cX7_fault 1 (some .int) 5 0 0 [.ref 165] (N, κ, ρ, μ, ν) (some (.int (rFo μ).1)) (N, κ, ρ, (rFo μ).2, ν) := by
  refine jMT (ini := false) my_X7_fault (fun h => by cases h) (jRv_i _) (Nat.le_of_ble_eq_true rfl) ?_
  show J G RX7 cX7_fault 1 false 5 _ 0 0 (N, κ, ρ, μ, ν) 0 [some (.ref 165)] []
  generalize hQe : (fun (v' : Option Value) (h'' : jH) => v' = (some (.int (rFo μ).1)) ∧ h'' = (N, κ, ρ, (rFo μ).2, ν)) = Q
  have hQ : Q (some (.int (rFo μ).1)) (N, κ, ρ, (rFo μ).2, ν) := by rw [← hQe]; exact ⟨rfl, rfl⟩
  clear hQe
  refine j_aload_n dX7_fault_0 rfl ?_
  refine j_cV0r dX7_fault_1 (r_fo hr hl htl) ml_X7_126 my_X7_faultOf mi_X7_faultOf (o_165 hr) rfl (by omega) (Nat.le_of_ble_eq_true rfl) (Nat.le_of_ble_eq_true rfl) ?_
  exact j_iret dX7_fault_4 hQ

def rLay (m : jMem) : Int32 × jMem := if (rFo m).1 = -4 ∧ ¬ (rFo m).2 165 15 = 0 then (rBegin (rFo m).2 ((rFo m).2 165 15).toNatClampNeg 165 3, rBegin (rFo m).2 ((rFo m).2 165 15).toNatClampNeg) else (-2, (rFo m).2)
set_option maxRecDepth 20000 in
theorem r_lay {G : jG} {N : Nat} {κ : Nat → jK} {ρ : Nat → Nat → Option Nat} {μ : Nat → Nat → Int32} {ν : Nat → Nat → Int64} (hr : shR N κ ρ) {tl : Nat} (hl : μ 165 12 = nI tl) (htl : tl ≤ 200) : MT G yX7_lay cX7_lay 1 (some .int) 5 0 0 [.ref 165] (N, κ, ρ, μ, ν) (some (.int (rLay μ).1)) (N, κ, ρ, (rLay μ).2, ν) := by
  refine jMT (ini := false) my_X7_lay (fun h => by cases h) (jRv_i _) (Nat.le_of_ble_eq_true rfl) ?_
  show J G RX7 cX7_lay 1 false 5 _ 0 0 (N, κ, ρ, μ, ν) 0 [some (.ref 165)] []
  generalize hQe : (fun (v' : Option Value) (h'' : jH) => v' = (some (.int (rLay μ).1)) ∧ h'' = (N, κ, ρ, (rLay μ).2, ν)) = Q
  have hQ : Q (some (.int (rLay μ).1)) (N, κ, ρ, (rLay μ).2, ν) := by rw [← hQe]; exact ⟨rfl, rfl⟩
  clear hQe
  refine j_aload_n dX7_lay_0 rfl ?_
  refine j_cV0r dX7_lay_1 (r_fo hr hl htl) ml_X7_126 my_X7_faultOf mi_X7_faultOf (o_165 hr) rfl (by omega) (Nat.le_of_ble_eq_true rfl) (Nat.le_of_ble_eq_true rfl) ?_
  refine j_bipush (v := (-4)) dX7_lay_4 (by decide) ?_
  refine j_icmp_ne (tgt := 16) dX7_lay_6 (by decide) (fun c6 => ?_) (fun c6 => ?_)
  · skip
    refine j_bipush (v := (-2)) dX7_lay_16 (by decide) ?_
    exact j_iret dX7_lay_18 (by simpa only [rLay, c6, not_true_eq_false, reduceIte, Bool.false_eq_true, Bool.true_eq_false, and_self, and_true, true_and, and_false, false_and, not_true_eq_false, not_false_eq_true, ne_eq, decide_true, decide_false, if_true, if_false, Bool.not_eq_true, Bool.not_eq_false] using hQ)
  · skip
    refine j_aload_n dX7_lay_9 rfl ?_
    refine j_geti dX7_lay_10 fl_X7_76 rfl (o_165 hr) ?_
    refine j_if_ne (tgt := 19) dX7_lay_13 (by decide) (fun c13 => ?_) (fun c13 => ?_)
    · skip
      refine j_aload_n dX7_lay_19 rfl ?_
      obtain ⟨-, k, hk5, hk⟩ := rFo_rd hl
      have ek : ((rFo μ).2 165 15).toNatClampNeg = k := by rw [hk]; exact nI_clamp (by omega)
      refine j_cV0v dX7_lay_20 (r_begins (n := k) hr hk hk5) ml_X7_66 my_X7_begins mi_X7_begins (o_165 hr) rfl (by omega) (Nat.le_of_ble_eq_true rfl) (Nat.le_of_ble_eq_true rfl) ?_
      refine j_aload_n dX7_lay_23 rfl ?_
      refine j_geti dX7_lay_24 fl_X7_69 rfl (o_165 hr) ?_
      exact j_iret dX7_lay_27 (by simpa only [rLay, ek, eq_true c6, c13, not_true_eq_false, reduceIte, Bool.false_eq_true, Bool.true_eq_false, and_self, and_true, true_and, and_false, false_and, not_true_eq_false, not_false_eq_true, ne_eq, decide_true, decide_false, if_true, if_false, Bool.not_eq_true, Bool.not_eq_false] using hQ)
    · skip
      refine j_bipush (v := (-2)) dX7_lay_16 (by decide) ?_
      exact j_iret dX7_lay_18 (by simpa only [rLay, eq_true c6, eq_true c13, not_true_eq_false, reduceIte, Bool.false_eq_true, Bool.true_eq_false, and_self, and_true, true_and, and_false, false_and, not_true_eq_false, not_false_eq_true, ne_eq, decide_true, decide_false, if_true, if_false, Bool.not_eq_true, Bool.not_eq_false] using hQ)

theorem rin_lh {x : Int32} {l h : Nat} (hh : h < 2 ^ 31) (hlh : l ≤ h) (z : rIn x.toInt64 (nI l).toInt64 (nI h).toInt64 = true) : ∃ k, l ≤ k ∧ k ≤ h ∧ x = nI k := by
  simp only [rIn, decide_eq_true_eq] at z
  obtain ⟨h1', h2'⟩ := z
  rw [Int64.le_iff_toInt_le, Int32.toInt_toInt64, Int32.toInt_toInt64, nI_toInt (by omega)] at h1' h2'
  have h0 : ¬ x < 0 := by
    rw [Int32.lt_iff_toInt_lt]
    have : (0 : Int32).toInt = 0 := by decide
    omega
  obtain ⟨k, hk, rfl⟩ := nI_of h0
  rw [nI_toInt hk] at h1' h2'
  exact ⟨k, by omega, by omega, rfl⟩
def rWallV (m : jMem) (i : Nat) (what : Int32) : Int32 := if what = 0 then m 167 i else if what = 1 then m 168 i else if what = 2 then m 169 i else if rIn what.toInt64 3 7 = true then m 166 (2 + 5 * (what.toNatClampNeg - 3) + i) else -1
def rWall (m : jMem) (k what : Int32) : Int32 × jMem := if rIsW m k = true then (rWallV m k.toNatClampNeg what, m) else (-1, m)
set_option maxRecDepth 20000 in
theorem r_wall {G : jG} {N : Nat} {κ : Nat → jK} {ρ : Nat → Nat → Option Nat} {μ : Nat → Nat → Int32} {ν : Nat → Nat → Int64} (hr : shR N κ ρ) {p : Nat} (hp : μ 165 3 = nI p) (hp5 : p ≤ 5) {k what : Int32} : MT G yX7_wall cX7_wall 3 (some .int) 2 0 0 [.ref 165, .int k, .int what] (N, κ, ρ, μ, ν) (some (.int (rWall μ k what).1)) (N, κ, ρ, (rWall μ k what).2, ν) := by
  refine jMT (ini := false) my_X7_wall (fun h => by cases h) (jRv_i _) (Nat.le_of_ble_eq_true rfl) ?_
  show J G RX7 cX7_wall 3 false 2 _ 0 0 (N, κ, ρ, μ, ν) 0 [some (.ref 165), some (.int k), some (.int what)] []
  generalize hQe : (fun (v' : Option Value) (h'' : jH) => v' = (some (.int (rWall μ k what).1)) ∧ h'' = (N, κ, ρ, (rWall μ k what).2, ν)) = Q
  have hQ : Q (some (.int (rWall μ k what).1)) (N, κ, ρ, (rWall μ k what).2, ν) := by rw [← hQe]; exact ⟨rfl, rfl⟩
  clear hQe
  refine j_aload_n dX7_wall_0 rfl ?_
  refine j_iload_n dX7_wall_1 rfl ?_
  refine j_cV1r dX7_wall_2 (r_isWall hr) ml_X7_130 my_X7_isWall mi_X7_isWall (o_165 hr) rfl (by omega) (Nat.le_of_ble_eq_true rfl) (Nat.le_of_ble_eq_true rfl) ?_
  refine j_if_neB (tgt := 10) dX7_wall_5 (by decide) (fun c5 => ?_) (fun c5 => ?_)
  · skip
    obtain ⟨i, hi, rfl⟩ := in_wall hp hp5 c5
    have ei : (nI i).toNatClampNeg = i := nI_clamp (by omega)
    refine j_iload_n dX7_wall_10 rfl ?_
    refine j_if_ne (tgt := 23) dX7_wall_11 (by decide) (fun c11 => ?_) (fun c11 => ?_)
    · skip
      refine j_iload_n dX7_wall_23 rfl ?_
      refine j_iconst (v := 1) dX7_wall_24 (by decide) ?_
      refine j_icmp_ne (tgt := 37) dX7_wall_25 (by decide) (fun c25 => ?_) (fun c25 => ?_)
      · skip
        refine j_iload_n dX7_wall_37 rfl ?_
        refine j_iconst (v := 2) dX7_wall_38 (by decide) ?_
        refine j_icmp_ne (tgt := 51) dX7_wall_39 (by decide) (fun c39 => ?_) (fun c39 => ?_)
        · skip
          refine j_iload_n dX7_wall_51 rfl ?_
          refine j_i2l dX7_wall_52 ?_
          refine j_ldc2 dX7_wall_53 ct_X7_134 ?_
          refine j_ldc2 dX7_wall_56 ct_X7_136 ?_
          refine j_cS3r dX7_wall_59 r_in ml_X7_72 my_X7_in ms_X7_in (by omega) (Nat.le_of_ble_eq_true rfl) (Nat.le_of_ble_eq_true rfl) ?_
          refine j_if_eqB (tgt := 82) dX7_wall_62 (by decide) (fun c62 => ?_) (fun c62 => ?_)
          · skip
            refine j_iconst (v := (-1)) dX7_wall_82 (by decide) ?_
            exact j_iret dX7_wall_83 (by simpa only [rWall, rWallV, c5, ei, c11, c25, c39, c62, reduceIte, Bool.false_eq_true, Bool.true_eq_false, and_self, and_true, true_and, and_false, false_and, not_true_eq_false, not_false_eq_true, ne_eq, decide_true, decide_false, if_true, if_false, Bool.not_eq_true, Bool.not_eq_false] using hQ)
          · skip
            obtain ⟨v, hv1, hv2, rfl⟩ := rin_lh (l := 3) (h := 7) (by decide) (by decide) c62
            have ev : (nI v).toNatClampNeg = v := nI_clamp (by omega)
            refine j_aload_n dX7_wall_65 rfl ?_
            refine j_getr dX7_wall_66 fl_X7_7 rfl (o_165 hr) (r_165_0 hr) ?_
            refine j_iconst (v := 2) dX7_wall_69 (by decide) ?_
            refine j_iconst (v := 5) dX7_wall_70 (by decide) ?_
            refine j_iload_n dX7_wall_71 rfl ?_
            refine j_iconst (v := 3) dX7_wall_72 (by decide) ?_
            refine j_isub dX7_wall_73 ?_
            refine j_topi (w := nI (v - 3)) (by rw [jl3]; exact pk_sub hv1) ?_
            refine j_imul dX7_wall_74 ?_
            refine j_iadd dX7_wall_75 ?_
            refine j_iload_n dX7_wall_76 rfl ?_
            refine j_iadd dX7_wall_77 ?_
            refine j_iald (k := ((2 + (5 * (v - 3))) + i)) dX7_wall_78 (a_166 hr) (by simp only [jl2, jl5, nI_add, pk_mul]) (by omega) ?_
            refine j_goto (tgt := 83) dX7_wall_79 (by decide) ?_
            exact j_iret dX7_wall_83 (by simpa only [rWall, rWallV, c5, ei, c11, c25, c39, c62, ev, reduceIte, Bool.false_eq_true, Bool.true_eq_false, and_self, and_true, true_and, and_false, false_and, not_true_eq_false, not_false_eq_true, ne_eq, decide_true, decide_false, if_true, if_false, Bool.not_eq_true, Bool.not_eq_false] using hQ)
        · skip
          refine j_aload_n dX7_wall_42 rfl ?_
          refine j_getr dX7_wall_43 fl_X7_19 rfl (o_165 hr) (r_165_6 hr) ?_
          refine j_iload_n dX7_wall_46 rfl ?_
          refine j_iald (k := i) dX7_wall_47 (a_169 hr) rfl (by omega) ?_
          refine j_goto (tgt := 83) dX7_wall_48 (by decide) ?_
          exact j_iret dX7_wall_83 (by simpa only [rWall, rWallV, c5, ei, c11, c25, eq_true c39, reduceIte, Bool.false_eq_true, Bool.true_eq_false, and_self, and_true, true_and, and_false, false_and, not_true_eq_false, not_false_eq_true, ne_eq, decide_true, decide_false, if_true, if_false, Bool.not_eq_true, Bool.not_eq_false] using hQ)
      · skip
        refine j_aload_n dX7_wall_28 rfl ?_
        refine j_getr dX7_wall_29 fl_X7_16 rfl (o_165 hr) (r_165_5 hr) ?_
        refine j_iload_n dX7_wall_32 rfl ?_
        refine j_iald (k := i) dX7_wall_33 (a_168 hr) rfl (by omega) ?_
        refine j_goto (tgt := 83) dX7_wall_34 (by decide) ?_
        exact j_iret dX7_wall_83 (by simpa only [rWall, rWallV, c5, ei, c11, eq_true c25, reduceIte, Bool.false_eq_true, Bool.true_eq_false, and_self, and_true, true_and, and_false, false_and, not_true_eq_false, not_false_eq_true, ne_eq, decide_true, decide_false, if_true, if_false, Bool.not_eq_true, Bool.not_eq_false] using hQ)
    · skip
      refine j_aload_n dX7_wall_14 rfl ?_
      refine j_getr dX7_wall_15 fl_X7_13 rfl (o_165 hr) (r_165_4 hr) ?_
      refine j_iload_n dX7_wall_18 rfl ?_
      refine j_iald (k := i) dX7_wall_19 (a_167 hr) rfl (by omega) ?_
      refine j_goto (tgt := 83) dX7_wall_20 (by decide) ?_
      exact j_iret dX7_wall_83 (by simpa only [rWall, rWallV, c5, ei, eq_true c11, reduceIte, Bool.false_eq_true, Bool.true_eq_false, and_self, and_true, true_and, and_false, false_and, not_true_eq_false, not_false_eq_true, ne_eq, decide_true, decide_false, if_true, if_false, Bool.not_eq_true, Bool.not_eq_false] using hQ)
  · skip
    refine j_iconst (v := (-1)) dX7_wall_8 (by decide) ?_
    exact j_iret dX7_wall_9 (by simpa only [rWall, rWallV, c5, reduceIte, Bool.false_eq_true, Bool.true_eq_false, and_self, and_true, true_and, and_false, false_and, not_true_eq_false, not_false_eq_true, ne_eq, decide_true, decide_false, if_true, if_false, Bool.not_eq_true, Bool.not_eq_false] using hQ)

def rHolds (m : jMem) (x y : Int32) : Int32 × jMem := if rIsW m x = true ∧ rIsW m y = true ∧ ¬ x = y then (m 166 (27 + 5 * x.toNatClampNeg + y.toNatClampNeg), m) else (-1, m)
set_option maxRecDepth 20000 in
theorem r_holds {G : jG} {N : Nat} {κ : Nat → jK} {ρ : Nat → Nat → Option Nat} {μ : Nat → Nat → Int32} {ν : Nat → Nat → Int64} (hr : shR N κ ρ) {p : Nat} (hp : μ 165 3 = nI p) (hp5 : p ≤ 5) {x y : Int32} : MT G yX7_holds cX7_holds 3 (some .int) 2 0 0 [.ref 165, .int x, .int y] (N, κ, ρ, μ, ν) (some (.int (rHolds μ x y).1)) (N, κ, ρ, (rHolds μ x y).2, ν) := by
  refine jMT (ini := false) my_X7_holds (fun h => by cases h) (jRv_i _) (Nat.le_of_ble_eq_true rfl) ?_
  show J G RX7 cX7_holds 3 false 2 _ 0 0 (N, κ, ρ, μ, ν) 0 [some (.ref 165), some (.int x), some (.int y)] []
  generalize hQe : (fun (v' : Option Value) (h'' : jH) => v' = (some (.int (rHolds μ x y).1)) ∧ h'' = (N, κ, ρ, (rHolds μ x y).2, ν)) = Q
  have hQ : Q (some (.int (rHolds μ x y).1)) (N, κ, ρ, (rHolds μ x y).2, ν) := by rw [← hQe]; exact ⟨rfl, rfl⟩
  clear hQe
  refine j_aload_n dX7_holds_0 rfl ?_
  refine j_iload_n dX7_holds_1 rfl ?_
  refine j_cV1r dX7_holds_2 (r_isWall hr) ml_X7_130 my_X7_isWall mi_X7_isWall (o_165 hr) rfl (by omega) (Nat.le_of_ble_eq_true rfl) (Nat.le_of_ble_eq_true rfl) ?_
  refine j_if_eqB (tgt := 37) dX7_holds_5 (by decide) (fun c5 => ?_) (fun c5 => ?_)
  · skip
    refine j_iconst (v := (-1)) dX7_holds_37 (by decide) ?_
    exact j_iret dX7_holds_38 (by simpa only [rHolds, c5, reduceIte, Bool.false_eq_true, Bool.true_eq_false, and_self, and_true, true_and, and_false, false_and, not_true_eq_false, not_false_eq_true, ne_eq, decide_true, decide_false, if_true, if_false, Bool.not_eq_true, Bool.not_eq_false] using hQ)
  · skip
    obtain ⟨i, hi, rfl⟩ := in_wall hp hp5 c5
    have ei : (nI i).toNatClampNeg = i := nI_clamp (by omega)
    refine j_aload_n dX7_holds_8 rfl ?_
    refine j_iload_n dX7_holds_9 rfl ?_
    refine j_cV1r dX7_holds_10 (r_isWall hr) ml_X7_130 my_X7_isWall mi_X7_isWall (o_165 hr) rfl (by omega) (Nat.le_of_ble_eq_true rfl) (Nat.le_of_ble_eq_true rfl) ?_
    refine j_if_eqB (tgt := 37) dX7_holds_13 (by decide) (fun c13 => ?_) (fun c13 => ?_)
    · skip
      refine j_iconst (v := (-1)) dX7_holds_37 (by decide) ?_
      exact j_iret dX7_holds_38 (by simpa only [rHolds, c5, ei, c13, reduceIte, Bool.false_eq_true, Bool.true_eq_false, and_self, and_true, true_and, and_false, false_and, not_true_eq_false, not_false_eq_true, ne_eq, decide_true, decide_false, if_true, if_false, Bool.not_eq_true, Bool.not_eq_false] using hQ)
    · skip
      obtain ⟨j, hj, rfl⟩ := in_wall hp hp5 c13
      have ej : (nI j).toNatClampNeg = j := nI_clamp (by omega)
      refine j_iload_n dX7_holds_16 rfl ?_
      refine j_iload_n dX7_holds_17 rfl ?_
      refine j_icmp_eq (tgt := 37) dX7_holds_18 (by decide) (fun c18 => ?_) (fun c18 => ?_)
      · skip
        refine j_iconst (v := (-1)) dX7_holds_37 (by decide) ?_
        exact j_iret dX7_holds_38 (by simpa only [rHolds, c5, ei, c13, ej, eq_true c18, reduceIte, Bool.false_eq_true, Bool.true_eq_false, and_self, and_true, true_and, and_false, false_and, not_true_eq_false, not_false_eq_true, ne_eq, decide_true, decide_false, if_true, if_false, Bool.not_eq_true, Bool.not_eq_false] using hQ)
      · skip
        refine j_aload_n dX7_holds_21 rfl ?_
        refine j_getr dX7_holds_22 fl_X7_7 rfl (o_165 hr) (r_165_0 hr) ?_
        refine j_bipush (v := 27) dX7_holds_25 (by decide) ?_
        refine j_iconst (v := 5) dX7_holds_27 (by decide) ?_
        refine j_iload_n dX7_holds_28 rfl ?_
        refine j_imul dX7_holds_29 ?_
        refine j_iadd dX7_holds_30 ?_
        refine j_iload_n dX7_holds_31 rfl ?_
        refine j_iadd dX7_holds_32 ?_
        refine j_iald (k := ((27 + (5 * i)) + j)) dX7_holds_33 (a_166 hr) (by simp only [jl5, jl27, nI_add, pk_mul]) (by omega) ?_
        refine j_goto (tgt := 38) dX7_holds_34 (by decide) ?_
        exact j_iret dX7_holds_38 (by simpa only [rHolds, c5, ei, c13, ej, c18, reduceIte, Bool.false_eq_true, Bool.true_eq_false, and_self, and_true, true_and, and_false, false_and, not_true_eq_false, not_false_eq_true, ne_eq, decide_true, decide_false, if_true, if_false, Bool.not_eq_true, Bool.not_eq_false] using hQ)

def rSt (m : jMem) (r k : Nat) : Bool := decide (m 166 (r + 7 + k) = 0)
set_option maxRecDepth 20000 in
theorem r_stands {G : jG} {N : Nat} {κ : Nat → jK} {ρ : Nat → Nat → Option Nat} {μ : Nat → Nat → Int32} {ν : Nat → Nat → Int64} {r : Nat} (hr : shR N κ ρ) (hrr : r + 52 ≤ 1196) {k : Nat} (hk : k < 5) : MT G yX7_stands cX7_stands 3 (some .boolean) 0 0 0 [.ref 165, .int (nI r), .int (nI k)] (N, κ, ρ, μ, ν) (some (.int (jb (rSt μ r k)))) (N, κ, ρ, μ, ν) := by
  refine jMT (ini := false) my_X7_stands (fun h => by cases h) (jRv_jb _) (Nat.le_of_ble_eq_true rfl) ?_
  show J G RX7 cX7_stands 3 false 0 _ 0 0 (N, κ, ρ, μ, ν) 0 [some (.ref 165), some (.int (nI r)), some (.int (nI k))] []
  refine j_aload_n dX7_stands_0 rfl ?_
  refine j_getr dX7_stands_1 fl_X7_7 rfl (o_165 hr) (r_165_0 hr) ?_
  refine j_iload_n dX7_stands_4 rfl ?_
  refine j_bipush (v := 7) dX7_stands_5 (by decide) ?_
  refine j_iadd dX7_stands_7 ?_
  refine j_iload_n dX7_stands_8 rfl ?_
  refine j_iadd dX7_stands_9 ?_
  refine j_iald (k := ((r + 7) + k)) dX7_stands_10 (a_166 hr) (by simp only [jl7, nI_add, pk_mul]) (by omega) ?_
  refine j_if_ne (tgt := 18) dX7_stands_11 (by decide) (fun c11 => ?_) (fun c11 => ?_)
  · skip
    refine j_iconst (v := 0) dX7_stands_18 (by decide) ?_
    exact j_iret dX7_stands_19 ⟨by simp [rSt, jb, c11], rfl⟩
  · skip
    refine j_iconst (v := 1) dX7_stands_14 (by decide) ?_
    refine j_goto (tgt := 19) dX7_stands_15 (by decide) ?_
    exact j_iret dX7_stands_19 ⟨by simp [rSt, jb, eq_true c11], rfl⟩

def rWF (m : jMem) (r k : Nat) (n : Int32) : Bool := decide (m 166 (r + 2 + k) ≤ n * (m 166 (r + 12 + k) + 1))
set_option maxRecDepth 20000 in
theorem r_wouldFall {G : jG} {N : Nat} {κ : Nat → jK} {ρ : Nat → Nat → Option Nat} {μ : Nat → Nat → Int32} {ν : Nat → Nat → Int64} {r : Nat} (hr : shR N κ ρ) (hrr : r + 52 ≤ 1196) {k : Nat} {n : Int32} (hk : k < 5) : MT G yX7_wouldFall cX7_wouldFall 4 (some .boolean) 0 0 0 [.ref 165, .int (nI r), .int (nI k), .int n] (N, κ, ρ, μ, ν) (some (.int (jb (rWF μ r k n)))) (N, κ, ρ, μ, ν) := by
  refine jMT (ini := false) my_X7_wouldFall (fun h => by cases h) (jRv_jb _) (Nat.le_of_ble_eq_true rfl) ?_
  show J G RX7 cX7_wouldFall 4 false 0 _ 0 0 (N, κ, ρ, μ, ν) 0 [some (.ref 165), some (.int (nI r)), some (.int (nI k)), some (.int n)] []
  refine j_iload_n dX7_wouldFall_0 rfl ?_
  refine j_aload_n dX7_wouldFall_1 rfl ?_
  refine j_getr dX7_wouldFall_2 fl_X7_7 rfl (o_165 hr) (r_165_0 hr) ?_
  refine j_iload_n dX7_wouldFall_5 rfl ?_
  refine j_bipush (v := 12) dX7_wouldFall_6 (by decide) ?_
  refine j_iadd dX7_wouldFall_8 ?_
  refine j_iload_n dX7_wouldFall_9 rfl ?_
  refine j_iadd dX7_wouldFall_10 ?_
  refine j_iald (k := ((r + 12) + k)) dX7_wouldFall_11 (a_166 hr) (by simp only [jl12, nI_add, pk_mul]) (by omega) ?_
  refine j_iconst (v := 1) dX7_wouldFall_12 (by decide) ?_
  refine j_iadd dX7_wouldFall_13 ?_
  refine j_imul dX7_wouldFall_14 ?_
  refine j_aload_n dX7_wouldFall_15 rfl ?_
  refine j_getr dX7_wouldFall_16 fl_X7_7 rfl (o_165 hr) (r_165_0 hr) ?_
  refine j_iload_n dX7_wouldFall_19 rfl ?_
  refine j_iconst (v := 2) dX7_wouldFall_20 (by decide) ?_
  refine j_iadd dX7_wouldFall_21 ?_
  refine j_iload_n dX7_wouldFall_22 rfl ?_
  refine j_iadd dX7_wouldFall_23 ?_
  refine j_iald (k := ((r + 2) + k)) dX7_wouldFall_24 (a_166 hr) (by simp only [jl2, nI_add, pk_mul]) (by omega) ?_
  refine k_icmp_lt (tgt := 32) dX7_wouldFall_25 (by decide) (fun c25 c25' => ?_) (fun c25 c25' => ?_)
  · skip
    refine j_iconst (v := 0) dX7_wouldFall_32 (by decide) ?_
    exact j_iret dX7_wouldFall_33 ⟨by simp [rWF, jb, c25, c25'], rfl⟩
  · skip
    refine j_iconst (v := 1) dX7_wouldFall_28 (by decide) ?_
    refine j_goto (tgt := 33) dX7_wouldFall_29 (by decide) ?_
    exact j_iret dX7_wouldFall_33 ⟨by simp [rWF, jb, c25, c25'], rfl⟩

def rRo (m : jMem) (r k : Nat) : jMem := jup m 166 (r + 12 + k) (if 7 < m 166 (r + 12 + k) + (if m 167 k = 2 then 2 else 1) then 7 else m 166 (r + 12 + k) + (if m 167 k = 2 then 2 else 1))
set_option maxRecDepth 20000 in
theorem r_ro {G : jG} {N : Nat} {κ : Nat → jK} {ρ : Nat → Nat → Option Nat} {μ : Nat → Nat → Int32} {ν : Nat → Nat → Int64} {r : Nat} (hr : shR N κ ρ) (hrr : r + 52 ≤ 1196) {k : Nat} (hk : k < 5) : MT G yX7_roundsOne cX7_roundsOne 4 none 0 0 0 [.ref 165, .int (nI r), .int (nI k)] (N, κ, ρ, μ, ν) none (N, κ, ρ, rRo μ r k, ν) := by
  refine jMT (ini := false) my_X7_roundsOne (fun h => by cases h) jRv_v (Nat.le_of_ble_eq_true rfl) ?_
  show J G RX7 cX7_roundsOne 4 false 0 _ 0 0 (N, κ, ρ, μ, ν) 0 [some (.ref 165), some (.int (nI r)), some (.int (nI k)), none] []
  refine j_aload_n dX7_roundsOne_0 rfl ?_
  refine j_getr dX7_roundsOne_1 fl_X7_7 rfl (o_165 hr) (r_165_0 hr) ?_
  refine j_iload_n dX7_roundsOne_4 rfl ?_
  refine j_bipush (v := 12) dX7_roundsOne_5 (by decide) ?_
  refine j_iadd dX7_roundsOne_7 ?_
  refine j_iload_n dX7_roundsOne_8 rfl ?_
  refine j_iadd dX7_roundsOne_9 ?_
  refine j_iald (k := ((r + 12) + k)) dX7_roundsOne_10 (a_166 hr) (by simp only [jl12, nI_add, pk_mul]) (by omega) ?_
  refine j_aload_n dX7_roundsOne_11 rfl ?_
  refine j_getr dX7_roundsOne_12 fl_X7_13 rfl (o_165 hr) (r_165_4 hr) ?_
  refine j_iload_n dX7_roundsOne_15 rfl ?_
  refine j_iald (k := k) dX7_roundsOne_16 (a_167 hr) rfl (by omega) ?_
  refine j_iconst (v := 2) dX7_roundsOne_17 (by decide) ?_
  refine j_icmp_ne (tgt := 25) dX7_roundsOne_18 (by decide) (fun c18 => ?_) (fun c18 => ?_)
  · skip
    refine j_iconst (v := 1) dX7_roundsOne_25 (by decide) ?_
    refine j_iadd dX7_roundsOne_26 ?_
    refine j_istore_3 dX7_roundsOne_27 rfl ?_
    refine j_aload_n dX7_roundsOne_28 rfl ?_
    refine j_getr dX7_roundsOne_29 fl_X7_7 rfl (o_165 hr) (r_165_0 hr) ?_
    refine j_iload_n dX7_roundsOne_32 rfl ?_
    refine j_bipush (v := 12) dX7_roundsOne_33 (by decide) ?_
    refine j_iadd dX7_roundsOne_35 ?_
    refine j_iload_n dX7_roundsOne_36 rfl ?_
    refine j_iadd dX7_roundsOne_37 ?_
    refine j_iload_n dX7_roundsOne_38 rfl ?_
    refine j_bipush (v := 7) dX7_roundsOne_39 (by decide) ?_
    refine k_icmp_le (tgt := 49) dX7_roundsOne_41 (by decide) (fun c41 c41' => ?_) (fun c41 c41' => ?_)
    · skip
      refine j_iload_n dX7_roundsOne_49 rfl ?_
      refine j_iast (k := ((r + 12) + k)) dX7_roundsOne_50 (a_166 hr) (by simp only [jl12, nI_add, pk_mul]) (by omega) ?_
      exact j_vret dX7_roundsOne_51 ⟨rfl, by simp only [rRo, c18, c41, c41', reduceIte]⟩
    · skip
      refine j_bipush (v := 7) dX7_roundsOne_44 (by decide) ?_
      refine j_goto (tgt := 50) dX7_roundsOne_46 (by decide) ?_
      refine j_iast (k := ((r + 12) + k)) dX7_roundsOne_50 (a_166 hr) (by simp only [jl12, nI_add, pk_mul]) (by omega) ?_
      exact j_vret dX7_roundsOne_51 ⟨rfl, by simp only [rRo, c18, c41, c41', reduceIte]⟩
  · skip
    refine j_iconst (v := 2) dX7_roundsOne_21 (by decide) ?_
    refine j_goto (tgt := 26) dX7_roundsOne_22 (by decide) ?_
    refine j_iadd dX7_roundsOne_26 ?_
    refine j_istore_3 dX7_roundsOne_27 rfl ?_
    refine j_aload_n dX7_roundsOne_28 rfl ?_
    refine j_getr dX7_roundsOne_29 fl_X7_7 rfl (o_165 hr) (r_165_0 hr) ?_
    refine j_iload_n dX7_roundsOne_32 rfl ?_
    refine j_bipush (v := 12) dX7_roundsOne_33 (by decide) ?_
    refine j_iadd dX7_roundsOne_35 ?_
    refine j_iload_n dX7_roundsOne_36 rfl ?_
    refine j_iadd dX7_roundsOne_37 ?_
    refine j_iload_n dX7_roundsOne_38 rfl ?_
    refine j_bipush (v := 7) dX7_roundsOne_39 (by decide) ?_
    refine k_icmp_le (tgt := 49) dX7_roundsOne_41 (by decide) (fun c41 c41' => ?_) (fun c41 c41' => ?_)
    · skip
      refine j_iload_n dX7_roundsOne_49 rfl ?_
      refine j_iast (k := ((r + 12) + k)) dX7_roundsOne_50 (a_166 hr) (by simp only [jl12, nI_add, pk_mul]) (by omega) ?_
      exact j_vret dX7_roundsOne_51 ⟨rfl, by simp only [rRo, eq_true c18, c41, c41', reduceIte]⟩
    · skip
      refine j_bipush (v := 7) dX7_roundsOne_44 (by decide) ?_
      refine j_goto (tgt := 50) dX7_roundsOne_46 (by decide) ?_
      refine j_iast (k := ((r + 12) + k)) dX7_roundsOne_50 (a_166 hr) (by simp only [jl12, nI_add, pk_mul]) (by omega) ?_
      exact j_vret dX7_roundsOne_51 ⟨rfl, by simp only [rRo, eq_true c18, c41, c41', reduceIte]⟩

def rPsF (r : Nat) : Nat → jMem → jMem := fun k m => jup m 166 (r + 2 + k) (m 166 (r + 2 + k) + if m 167 k = 1 ∧ rSt m r k = true ∧ m 166 (r + 2 + k) < 99 then 1 else 0)
def rPs (m : jMem) (r p : Nat) : jMem := jup (it (rPsF r) p 0 m) 166 (r + 1) (it (rPsF r) p 0 m 166 (r + 1) + 1)
theorem rPsF_lo (r i : Nat) (m : jMem) {x y : Nat} (h : x ≠ 166) : rPsF r i m x y = m x y := jup_oth h
set_option maxRecDepth 20000 in
theorem lr_ps {G : jG} {N : Nat} {κ : Nat → jK} {ρ : Nat → Nat → Option Nat} {ν : Nat → Nat → Int64} {Q : Option Value → jH → Prop} {d : Nat} (hd1 : 1 ≤ d) {r p : Nat} {μ : jMem} (hr : shR N κ ρ) (hrr : r + 52 ≤ 1196) (hp : μ 165 3 = nI p) (hp5 : p ≤ 5) (K : J G RX7 cX7_passes 3 false d Q 0 0 (N, κ, ρ, (it (rPsF r) p 0 μ), ν) 68 [some (.ref 165), some (.int (nI r)), some (.int (nI p))] []) : J G RX7 cX7_passes 3 false d Q 0 0 (N, κ, ρ, μ, ν) 2 [some (.ref 165), some (.int (nI r)), some (.int (nI 0))] [] := by
  refine it_loop (f := rPsF r) (p := p) (fun i s => J G RX7 cX7_passes 3 false d Q 0 0 (N, κ, ρ, s, ν) 2 [some (.ref 165), some (.int (nI r)), some (.int (nI i))] []) (fun s => J G RX7 cX7_passes 3 false d Q 0 0 (N, κ, ρ, s, ν) 68 [some (.ref 165), some (.int (nI r)), some (.int (nI p))] []) (fun _ s => s 165 3 = nI p) ?_ ?_ (fun i s _ h => by rw [rPsF_lo r i s (by decide)]; exact h) p 0 μ (by omega) hp K
  · intro s hI K
    replace hp := hI
    refine j_iload_n dX7_passes_2 rfl ?_
    refine j_aload_n dX7_passes_3 rfl ?_
    refine j_geti dX7_passes_4 fl_X7_69 rfl (o_165 hr) ?_
    refine k_icmp_ge (tgt := 68) dX7_passes_7 (by decide) (fun c7 c7' => ?_) (fun c7 c7' => ?_)
    · skip
      exact K
    · skip
      exact absurd (by rw [hp]; exact Int32.le_refl _) c7
  · intro i s hi hI K
    (try dsimp only at K)
    replace hp := hI
    unfold rPsF at K
    (try dsimp only at K)
    refine j_iload_n dX7_passes_2 rfl ?_
    refine j_aload_n dX7_passes_3 rfl ?_
    refine j_geti dX7_passes_4 fl_X7_69 rfl (o_165 hr) ?_
    refine k_icmp_ge (tgt := 68) dX7_passes_7 (by decide) (fun c7 c7' => ?_) (fun c7 c7' => ?_)
    · skip
      exact absurd c7 (by rw [hp]; exact nI_ge (by omega) (by omega))
    · skip
      refine j_aload_n dX7_passes_10 rfl ?_
      refine j_getr dX7_passes_11 fl_X7_7 rfl (o_165 hr) (r_165_0 hr) ?_
      refine j_iload_n dX7_passes_14 rfl ?_
      refine j_iconst (v := 2) dX7_passes_15 (by decide) ?_
      refine j_iadd dX7_passes_16 ?_
      refine j_iload_n dX7_passes_17 rfl ?_
      refine j_iadd dX7_passes_18 ?_
      refine j_dup2 dX7_passes_19 rfl rfl ?_
      refine j_iald (k := ((r + 2) + i)) dX7_passes_20 (a_166 hr) (by simp only [jl2, nI_add, pk_mul]) (by omega) ?_
      refine j_aload_n dX7_passes_21 rfl ?_
      refine j_getr dX7_passes_22 fl_X7_13 rfl (o_165 hr) (r_165_4 hr) ?_
      refine j_iload_n dX7_passes_25 rfl ?_
      refine j_iald (k := i) dX7_passes_26 (a_167 hr) rfl (by omega) ?_
      refine j_iconst (v := 1) dX7_passes_27 (by decide) ?_
      refine j_icmp_ne (tgt := 59) dX7_passes_28 (by decide) (fun c28 => ?_) (fun c28 => ?_)
      · skip
        refine j_iconst (v := 0) dX7_passes_59 (by decide) ?_
        refine j_iadd dX7_passes_60 ?_
        refine j_iast (k := ((r + 2) + i)) dX7_passes_61 (a_166 hr) (by simp only [jl2, nI_add, pk_mul]) (by omega) ?_
        refine j_iinc_2 (v := nI (i + 1)) dX7_passes_62 (nI_add _ _) rfl ?_
        refine j_goto (tgt := 2) dX7_passes_65 (by decide) ?_
        (try simp only [c7, c7', c28, reduceIte, Bool.false_eq_true, Bool.true_eq_false, and_self, and_true, true_and, and_false, false_and, not_true_eq_false, not_false_eq_true, ne_eq, decide_true, decide_false, if_true, if_false, Bool.not_eq_true, Bool.not_eq_false] at K)
        exact K
      · skip
        refine j_aload_n dX7_passes_31 rfl ?_
        refine j_iload_n dX7_passes_32 rfl ?_
        refine j_iload_n dX7_passes_33 rfl ?_
        refine j_cV2r dX7_passes_34 (r_stands (r := r) (k := i) hr (by omega) (by omega)) ml_X7_138 my_X7_stands mi_X7_stands (o_165 hr) rfl (by omega) (Nat.le_of_ble_eq_true rfl) (Nat.le_of_ble_eq_true rfl) ?_
        refine j_if_eqB (tgt := 59) dX7_passes_37 (by decide) (fun c37 => ?_) (fun c37 => ?_)
        · skip
          refine j_iconst (v := 0) dX7_passes_59 (by decide) ?_
          refine j_iadd dX7_passes_60 ?_
          refine j_iast (k := ((r + 2) + i)) dX7_passes_61 (a_166 hr) (by simp only [jl2, nI_add, pk_mul]) (by omega) ?_
          refine j_iinc_2 (v := nI (i + 1)) dX7_passes_62 (nI_add _ _) rfl ?_
          refine j_goto (tgt := 2) dX7_passes_65 (by decide) ?_
          (try simp only [c7, c7', eq_true c28, c37, reduceIte, Bool.false_eq_true, Bool.true_eq_false, and_self, and_true, true_and, and_false, false_and, not_true_eq_false, not_false_eq_true, ne_eq, decide_true, decide_false, if_true, if_false, Bool.not_eq_true, Bool.not_eq_false] at K)
          exact K
        · skip
          refine j_aload_n dX7_passes_40 rfl ?_
          refine j_getr dX7_passes_41 fl_X7_7 rfl (o_165 hr) (r_165_0 hr) ?_
          refine j_iload_n dX7_passes_44 rfl ?_
          refine j_iconst (v := 2) dX7_passes_45 (by decide) ?_
          refine j_iadd dX7_passes_46 ?_
          refine j_iload_n dX7_passes_47 rfl ?_
          refine j_iadd dX7_passes_48 ?_
          refine j_iald (k := ((r + 2) + i)) dX7_passes_49 (a_166 hr) (by simp only [jl2, nI_add, pk_mul]) (by omega) ?_
          refine j_bipush (v := 99) dX7_passes_50 (by decide) ?_
          refine k_icmp_ge (tgt := 59) dX7_passes_52 (by decide) (fun c52 c52' => ?_) (fun c52 c52' => ?_)
          · skip
            refine j_iconst (v := 0) dX7_passes_59 (by decide) ?_
            refine j_iadd dX7_passes_60 ?_
            refine j_iast (k := ((r + 2) + i)) dX7_passes_61 (a_166 hr) (by simp only [jl2, nI_add, pk_mul]) (by omega) ?_
            refine j_iinc_2 (v := nI (i + 1)) dX7_passes_62 (nI_add _ _) rfl ?_
            refine j_goto (tgt := 2) dX7_passes_65 (by decide) ?_
            (try simp only [c7, c7', eq_true c28, c37, c52, c52', reduceIte, Bool.false_eq_true, Bool.true_eq_false, and_self, and_true, true_and, and_false, false_and, not_true_eq_false, not_false_eq_true, ne_eq, decide_true, decide_false, if_true, if_false, Bool.not_eq_true, Bool.not_eq_false] at K)
            exact K
          · skip
            refine j_iconst (v := 1) dX7_passes_55 (by decide) ?_
            refine j_goto (tgt := 60) dX7_passes_56 (by decide) ?_
            refine j_iadd dX7_passes_60 ?_
            refine j_iast (k := ((r + 2) + i)) dX7_passes_61 (a_166 hr) (by simp only [jl2, nI_add, pk_mul]) (by omega) ?_
            refine j_iinc_2 (v := nI (i + 1)) dX7_passes_62 (nI_add _ _) rfl ?_
            refine j_goto (tgt := 2) dX7_passes_65 (by decide) ?_
            (try simp only [c7, c7', eq_true c28, c37, c52, c52', reduceIte, Bool.false_eq_true, Bool.true_eq_false, and_self, and_true, true_and, and_false, false_and, not_true_eq_false, not_false_eq_true, ne_eq, decide_true, decide_false, if_true, if_false, Bool.not_eq_true, Bool.not_eq_false] at K)
            exact K

set_option maxRecDepth 20000 in
theorem r_ps {G : jG} {N : Nat} {κ : Nat → jK} {ρ : Nat → Nat → Option Nat} {μ : Nat → Nat → Int32} {ν : Nat → Nat → Int64} {r p : Nat} (hr : shR N κ ρ) (hrr : r + 52 ≤ 1196) (hp : μ 165 3 = nI p) (hp5 : p ≤ 5) : MT G yX7_passes cX7_passes 3 none 1 0 0 [.ref 165, .int (nI r)] (N, κ, ρ, μ, ν) none (N, κ, ρ, rPs μ r p, ν) := by
  refine jMT (ini := false) my_X7_passes (fun h => by cases h) jRv_v (Nat.le_of_ble_eq_true rfl) ?_
  show J G RX7 cX7_passes 3 false 1 _ 0 0 (N, κ, ρ, μ, ν) 0 [some (.ref 165), some (.int (nI r)), none] []
  refine j_iconst (v := 0) dX7_passes_0 (by decide) ?_
  refine j_istore_2 dX7_passes_1 rfl ?_
  refine lr_ps (by omega) hr hrr hp hp5 ?_
  refine j_aload_n dX7_passes_68 rfl ?_
  refine j_getr dX7_passes_69 fl_X7_7 rfl (o_165 hr) (r_165_0 hr) ?_
  refine j_iload_n dX7_passes_72 rfl ?_
  refine j_iconst (v := 1) dX7_passes_73 (by decide) ?_
  refine j_iadd dX7_passes_74 ?_
  refine j_dup2 dX7_passes_75 rfl rfl ?_
  refine j_iald (k := (r + 1)) dX7_passes_76 (a_166 hr) (by simp only [jl1, nI_add, pk_mul]) (by omega) ?_
  refine j_iconst (v := 1) dX7_passes_77 (by decide) ?_
  refine j_iadd dX7_passes_78 ?_
  refine j_iast (k := (r + 1)) dX7_passes_79 (a_166 hr) (by simp only [jl1, nI_add, pk_mul]) (by omega) ?_
  exact j_vret dX7_passes_80 ⟨rfl, rfl⟩

def rF1 (m : jMem) (r k : Nat) (b : Bool) : jMem := if b = true then jup m 166 (r + 0) (m 166 (r + 0) + m 168 k) else if nI k + 1 < m 165 3 then jup m 166 (r + 17 + k + 1) (m 166 (r + 17 + k + 1) + 1) else m
def rF2 (m : jMem) (r k : Nat) (b : Bool) : jMem := jup (rF1 m r k b) 166 (r + 12 + k) 0
def rDec (r k : Nat) : Nat → jMem → jMem := fun j m => jup m 166 (r + 2 + j) (m 166 (r + 2 + j) - if rSt m r j = true then m 166 (r + 27 + 5 * k + j) else 0)
def rF3 (m : jMem) (r k p : Nat) : Bool × jMem := if m 167 k = 3 ∧ m 166 (r + 22 + k) = 0 then (false, jup (jup m 166 (r + 22 + k) 1) 166 (r + 2 + k) (jup m 166 (r + 22 + k) 1 168 k / 2 + 1))
  else (true, it (rDec r k) p 0 (jup (jup m 166 (r + 7 + k) 1) 166 (r + 2 + k) 0))
def rFell (m : jMem) (r k : Nat) (b : Bool) (p : Nat) : Bool × jMem := rF3 (rF2 m r k b) r k p
theorem rF2_lo (m : jMem) (r k : Nat) (b : Bool) {x y : Nat} (h : x ≠ 166) : rF2 m r k b x y = m x y := by
  unfold rF2 rF1
  rw [jup_oth h]
  split
  · exact jup_oth h
  · split
    · exact jup_oth h
    · rfl
theorem rDec_lo (r k i : Nat) (m : jMem) {x y : Nat} (h : x ≠ 166) : rDec r k i m x y = m x y := jup_oth h
theorem rFell_lo (m : jMem) (r k : Nat) (b : Bool) (p : Nat) {x y : Nat} (h : x ≠ 166) : (rFell m r k b p).2 x y = m x y := by
  unfold rFell rF3
  split
  · show jup (jup _ _ _ _) _ _ _ x y = _
    rw [jup_oth h, jup_oth h, rF2_lo _ _ _ _ h]
  · show it (rDec r k) p 0 _ x y = _
    rw [it_lo (fun i m => rDec_lo r k i m h), jup_oth h, jup_oth h, rF2_lo _ _ _ _ h]
set_option maxRecDepth 20000 in
theorem lr_fell {G : jG} {N : Nat} {κ : Nat → jK} {ρ : Nat → Nat → Option Nat} {ν : Nat → Nat → Int64} {Q : Option Value → jH → Prop} {d : Nat} (hd1 : 1 ≤ d) {r k p : Nat} {μ : jMem} {x3 : Int32} (hr : shR N κ ρ) (hrr : r + 52 ≤ 1196) (hk : k < 5) (hp : μ 165 3 = nI p) (hp5 : p ≤ 5) (K : J G RX7 cX7_fellsOne 5 false d Q 0 0 (N, κ, ρ, (it (rDec r k) p 0 μ), ν) 206 [some (.ref 165), some (.int (nI r)), some (.int (nI k)), some (.int x3), some (.int (nI p))] []) : J G RX7 cX7_fellsOne 5 false d Q 0 0 (N, κ, ρ, μ, ν) 147 [some (.ref 165), some (.int (nI r)), some (.int (nI k)), some (.int x3), some (.int (nI 0))] [] := by
  refine it_loop (f := rDec r k) (p := p) (fun i s => J G RX7 cX7_fellsOne 5 false d Q 0 0 (N, κ, ρ, s, ν) 147 [some (.ref 165), some (.int (nI r)), some (.int (nI k)), some (.int x3), some (.int (nI i))] []) (fun s => J G RX7 cX7_fellsOne 5 false d Q 0 0 (N, κ, ρ, s, ν) 206 [some (.ref 165), some (.int (nI r)), some (.int (nI k)), some (.int x3), some (.int (nI p))] []) (fun _ s => s 165 3 = nI p) ?_ ?_ (fun i s _ h => by rw [rDec_lo r k i s (by decide)]; exact h) p 0 μ (by omega) hp K
  · intro s hI K
    replace hp := hI
    refine j_iload dX7_fellsOne_147 rfl ?_
    refine j_aload_n dX7_fellsOne_149 rfl ?_
    refine j_geti dX7_fellsOne_150 fl_X7_69 rfl (o_165 hr) ?_
    refine k_icmp_ge (tgt := 206) dX7_fellsOne_153 (by decide) (fun c153 c153' => ?_) (fun c153 c153' => ?_)
    · skip
      exact K
    · skip
      exact absurd (by rw [hp]; exact Int32.le_refl _) c153
  · intro i s hi hI K
    (try dsimp only at K)
    replace hp := hI
    unfold rDec at K
    (try dsimp only at K)
    refine j_iload dX7_fellsOne_147 rfl ?_
    refine j_aload_n dX7_fellsOne_149 rfl ?_
    refine j_geti dX7_fellsOne_150 fl_X7_69 rfl (o_165 hr) ?_
    refine k_icmp_ge (tgt := 206) dX7_fellsOne_153 (by decide) (fun c153 c153' => ?_) (fun c153 c153' => ?_)
    · skip
      exact absurd c153 (by rw [hp]; exact nI_ge (by omega) (by omega))
    · skip
      refine j_aload_n dX7_fellsOne_156 rfl ?_
      refine j_getr dX7_fellsOne_157 fl_X7_7 rfl (o_165 hr) (r_165_0 hr) ?_
      refine j_iload_n dX7_fellsOne_160 rfl ?_
      refine j_iconst (v := 2) dX7_fellsOne_161 (by decide) ?_
      refine j_iadd dX7_fellsOne_162 ?_
      refine j_iload dX7_fellsOne_163 rfl ?_
      refine j_iadd dX7_fellsOne_165 ?_
      refine j_dup2 dX7_fellsOne_166 rfl rfl ?_
      refine j_iald (k := ((r + 2) + i)) dX7_fellsOne_167 (a_166 hr) (by simp only [jl2, nI_add, pk_mul]) (by omega) ?_
      refine j_aload_n dX7_fellsOne_168 rfl ?_
      refine j_iload_n dX7_fellsOne_169 rfl ?_
      refine j_iload dX7_fellsOne_170 rfl ?_
      refine j_cV2r dX7_fellsOne_172 (r_stands (r := r) (k := i) hr (by omega) (by omega)) ml_X7_138 my_X7_stands mi_X7_stands (o_165 hr) rfl (by omega) (Nat.le_of_ble_eq_true rfl) (Nat.le_of_ble_eq_true rfl) ?_
      refine j_if_eqB (tgt := 197) dX7_fellsOne_175 (by decide) (fun c175 => ?_) (fun c175 => ?_)
      · skip
        refine j_iconst (v := 0) dX7_fellsOne_197 (by decide) ?_
        refine j_isub dX7_fellsOne_198 ?_
        refine j_iast (k := ((r + 2) + i)) dX7_fellsOne_199 (a_166 hr) (by simp only [jl2, nI_add, pk_mul]) (by omega) ?_
        refine j_iinc_4 (v := nI (i + 1)) dX7_fellsOne_200 (nI_add _ _) rfl ?_
        refine j_goto (tgt := 147) dX7_fellsOne_203 (by decide) ?_
        (try simp only [c153, c153', c175, reduceIte, Bool.false_eq_true, Bool.true_eq_false, and_self, and_true, true_and, and_false, false_and, not_true_eq_false, not_false_eq_true, ne_eq, decide_true, decide_false, if_true, if_false, Bool.not_eq_true, Bool.not_eq_false] at K)
        exact K
      · skip
        refine j_aload_n dX7_fellsOne_178 rfl ?_
        refine j_getr dX7_fellsOne_179 fl_X7_7 rfl (o_165 hr) (r_165_0 hr) ?_
        refine j_iload_n dX7_fellsOne_182 rfl ?_
        refine j_bipush (v := 27) dX7_fellsOne_183 (by decide) ?_
        refine j_iadd dX7_fellsOne_185 ?_
        refine j_iconst (v := 5) dX7_fellsOne_186 (by decide) ?_
        refine j_iload_n dX7_fellsOne_187 rfl ?_
        refine j_imul dX7_fellsOne_188 ?_
        refine j_iadd dX7_fellsOne_189 ?_
        refine j_iload dX7_fellsOne_190 rfl ?_
        refine j_iadd dX7_fellsOne_192 ?_
        refine j_iald (k := (((r + 27) + (5 * k)) + i)) dX7_fellsOne_193 (a_166 hr) (by simp only [jl5, jl27, nI_add, pk_mul]) (by omega) ?_
        refine j_goto (tgt := 198) dX7_fellsOne_194 (by decide) ?_
        refine j_isub dX7_fellsOne_198 ?_
        refine j_iast (k := ((r + 2) + i)) dX7_fellsOne_199 (a_166 hr) (by simp only [jl2, nI_add, pk_mul]) (by omega) ?_
        refine j_iinc_4 (v := nI (i + 1)) dX7_fellsOne_200 (nI_add _ _) rfl ?_
        refine j_goto (tgt := 147) dX7_fellsOne_203 (by decide) ?_
        (try simp only [c153, c153', c175, reduceIte, Bool.false_eq_true, Bool.true_eq_false, and_self, and_true, true_and, and_false, false_and, not_true_eq_false, not_false_eq_true, ne_eq, decide_true, decide_false, if_true, if_false, Bool.not_eq_true, Bool.not_eq_false] at K)
        exact K

set_option maxRecDepth 20000 in
theorem bd_fell {G : jG} {N : Nat} {κ : Nat → jK} {ρ : Nat → Nat → Option Nat} {ν : Nat → Nat → Int64} {Q : Option Value → jH → Prop} {d : Nat} (hd1 : 1 ≤ d) {r k p : Nat} {m : jMem} {x3 : Int32} (hr : shR N κ ρ) (hrr : r + 52 ≤ 1196) (hk : k < 5) (hp : m 165 3 = nI p) (hp5 : p ≤ 5) (hQ : Q (some (.int (jb (rF3 m r k p).1))) (N, κ, ρ, (rF3 m r k p).2, ν)) : J G RX7 cX7_fellsOne 5 false d Q 0 0 (N, κ, ρ, m, ν) 63 [some (.ref 165), some (.int (nI r)), some (.int (nI k)), some (.int x3), none] [] := by
  refine j_aload_n dX7_fellsOne_63 rfl ?_
  refine j_getr dX7_fellsOne_64 fl_X7_13 rfl (o_165 hr) (r_165_4 hr) ?_
  refine j_iload_n dX7_fellsOne_67 rfl ?_
  refine j_iald (k := k) dX7_fellsOne_68 (a_167 hr) rfl (by omega) ?_
  refine j_iconst (v := 3) dX7_fellsOne_69 (by decide) ?_
  refine j_icmp_ne (tgt := 121) dX7_fellsOne_70 (by decide) (fun c70 => ?_) (fun c70 => ?_)
  · skip
    refine j_aload_n dX7_fellsOne_121 rfl ?_
    refine j_getr dX7_fellsOne_122 fl_X7_7 rfl (o_165 hr) (r_165_0 hr) ?_
    refine j_iload_n dX7_fellsOne_125 rfl ?_
    refine j_bipush (v := 7) dX7_fellsOne_126 (by decide) ?_
    refine j_iadd dX7_fellsOne_128 ?_
    refine j_iload_n dX7_fellsOne_129 rfl ?_
    refine j_iadd dX7_fellsOne_130 ?_
    refine j_iconst (v := 1) dX7_fellsOne_131 (by decide) ?_
    refine j_iast (k := ((r + 7) + k)) dX7_fellsOne_132 (a_166 hr) (by simp only [jl7, nI_add, pk_mul]) (by omega) ?_
    refine j_aload_n dX7_fellsOne_133 rfl ?_
    refine j_getr dX7_fellsOne_134 fl_X7_7 rfl (o_165 hr) (r_165_0 hr) ?_
    refine j_iload_n dX7_fellsOne_137 rfl ?_
    refine j_iconst (v := 2) dX7_fellsOne_138 (by decide) ?_
    refine j_iadd dX7_fellsOne_139 ?_
    refine j_iload_n dX7_fellsOne_140 rfl ?_
    refine j_iadd dX7_fellsOne_141 ?_
    refine j_iconst (v := 0) dX7_fellsOne_142 (by decide) ?_
    refine j_iast (k := ((r + 2) + k)) dX7_fellsOne_143 (a_166 hr) (by simp only [jl2, nI_add, pk_mul]) (by omega) ?_
    refine j_iconst (v := 0) dX7_fellsOne_144 (by decide) ?_
    refine j_istore_4 dX7_fellsOne_145 rfl ?_
    refine lr_fell (by omega) hr hrr hk (by rw [jup_oth (by decide), jup_oth (by decide)]; exact hp) hp5 ?_
    refine j_iconst (v := 1) dX7_fellsOne_206 (by decide) ?_
    exact j_iret dX7_fellsOne_207 (by rw [rF3, if_neg (fun z => c70 z.1)] at hQ; exact hQ)
  · skip
    refine j_aload_n dX7_fellsOne_73 rfl ?_
    refine j_getr dX7_fellsOne_74 fl_X7_7 rfl (o_165 hr) (r_165_0 hr) ?_
    refine j_iload_n dX7_fellsOne_77 rfl ?_
    refine j_bipush (v := 22) dX7_fellsOne_78 (by decide) ?_
    refine j_iadd dX7_fellsOne_80 ?_
    refine j_iload_n dX7_fellsOne_81 rfl ?_
    refine j_iadd dX7_fellsOne_82 ?_
    refine j_iald (k := ((r + 22) + k)) dX7_fellsOne_83 (a_166 hr) (by simp only [jl22, nI_add, pk_mul]) (by omega) ?_
    refine j_if_ne (tgt := 121) dX7_fellsOne_84 (by decide) (fun c84 => ?_) (fun c84 => ?_)
    · skip
      refine j_aload_n dX7_fellsOne_121 rfl ?_
      refine j_getr dX7_fellsOne_122 fl_X7_7 rfl (o_165 hr) (r_165_0 hr) ?_
      refine j_iload_n dX7_fellsOne_125 rfl ?_
      refine j_bipush (v := 7) dX7_fellsOne_126 (by decide) ?_
      refine j_iadd dX7_fellsOne_128 ?_
      refine j_iload_n dX7_fellsOne_129 rfl ?_
      refine j_iadd dX7_fellsOne_130 ?_
      refine j_iconst (v := 1) dX7_fellsOne_131 (by decide) ?_
      refine j_iast (k := ((r + 7) + k)) dX7_fellsOne_132 (a_166 hr) (by simp only [jl7, nI_add, pk_mul]) (by omega) ?_
      refine j_aload_n dX7_fellsOne_133 rfl ?_
      refine j_getr dX7_fellsOne_134 fl_X7_7 rfl (o_165 hr) (r_165_0 hr) ?_
      refine j_iload_n dX7_fellsOne_137 rfl ?_
      refine j_iconst (v := 2) dX7_fellsOne_138 (by decide) ?_
      refine j_iadd dX7_fellsOne_139 ?_
      refine j_iload_n dX7_fellsOne_140 rfl ?_
      refine j_iadd dX7_fellsOne_141 ?_
      refine j_iconst (v := 0) dX7_fellsOne_142 (by decide) ?_
      refine j_iast (k := ((r + 2) + k)) dX7_fellsOne_143 (a_166 hr) (by simp only [jl2, nI_add, pk_mul]) (by omega) ?_
      refine j_iconst (v := 0) dX7_fellsOne_144 (by decide) ?_
      refine j_istore_4 dX7_fellsOne_145 rfl ?_
      refine lr_fell (by omega) hr hrr hk (by rw [jup_oth (by decide), jup_oth (by decide)]; exact hp) hp5 ?_
      refine j_iconst (v := 1) dX7_fellsOne_206 (by decide) ?_
      exact j_iret dX7_fellsOne_207 (by rw [rF3, if_neg (fun z => c84 z.2)] at hQ; exact hQ)
    · skip
      refine j_aload_n dX7_fellsOne_87 rfl ?_
      refine j_getr dX7_fellsOne_88 fl_X7_7 rfl (o_165 hr) (r_165_0 hr) ?_
      refine j_iload_n dX7_fellsOne_91 rfl ?_
      refine j_bipush (v := 22) dX7_fellsOne_92 (by decide) ?_
      refine j_iadd dX7_fellsOne_94 ?_
      refine j_iload_n dX7_fellsOne_95 rfl ?_
      refine j_iadd dX7_fellsOne_96 ?_
      refine j_iconst (v := 1) dX7_fellsOne_97 (by decide) ?_
      refine j_iast (k := ((r + 22) + k)) dX7_fellsOne_98 (a_166 hr) (by simp only [jl22, nI_add, pk_mul]) (by omega) ?_
      refine j_aload_n dX7_fellsOne_99 rfl ?_
      refine j_getr dX7_fellsOne_100 fl_X7_7 rfl (o_165 hr) (r_165_0 hr) ?_
      refine j_iload_n dX7_fellsOne_103 rfl ?_
      refine j_iconst (v := 2) dX7_fellsOne_104 (by decide) ?_
      refine j_iadd dX7_fellsOne_105 ?_
      refine j_iload_n dX7_fellsOne_106 rfl ?_
      refine j_iadd dX7_fellsOne_107 ?_
      refine j_aload_n dX7_fellsOne_108 rfl ?_
      refine j_getr dX7_fellsOne_109 fl_X7_16 rfl (o_165 hr) (r_165_5 hr) ?_
      refine j_iload_n dX7_fellsOne_112 rfl ?_
      refine j_iald (k := k) dX7_fellsOne_113 (a_168 hr) rfl (by omega) ?_
      refine j_iconst (v := 2) dX7_fellsOne_114 (by decide) ?_
      refine j_idiv dX7_fellsOne_115 (by decide) ?_
      refine j_iconst (v := 1) dX7_fellsOne_116 (by decide) ?_
      refine j_iadd dX7_fellsOne_117 ?_
      refine j_iast (k := ((r + 2) + k)) dX7_fellsOne_118 (a_166 hr) (by simp only [jl2, nI_add, pk_mul]) (by omega) ?_
      refine j_iconst (v := 0) dX7_fellsOne_119 (by decide) ?_
      exact j_iret dX7_fellsOne_120 (by rw [rF3, if_pos ⟨c70, c84⟩] at hQ; exact hQ)

set_option maxRecDepth 20000 in
theorem r_fell {G : jG} {N : Nat} {κ : Nat → jK} {ρ : Nat → Nat → Option Nat} {μ : Nat → Nat → Int32} {ν : Nat → Nat → Int64} {r p : Nat} (hr : shR N κ ρ) (hrr : r + 52 ≤ 1196) (hp : μ 165 3 = nI p) (hp5 : p ≤ 5) {k : Nat} {b : Bool} (hk : k < 5) : MT G yX7_fellsOne cX7_fellsOne 5 (some .boolean) 1 0 0 [.ref 165, .int (nI r), .int (nI k), .int (jb b)] (N, κ, ρ, μ, ν) (some (.int (jb (rFell μ r k b p).1))) (N, κ, ρ, (rFell μ r k b p).2, ν) := by
  refine jMT (ini := false) my_X7_fellsOne (fun h => by cases h) (jRv_jb _) (Nat.le_of_ble_eq_true rfl) ?_
  show J G RX7 cX7_fellsOne 5 false 1 _ 0 0 (N, κ, ρ, μ, ν) 0 [some (.ref 165), some (.int (nI r)), some (.int (nI k)), some (.int (jb b)), none] []
  refine j_iload_n dX7_fellsOne_0 rfl ?_
  refine j_if_eqB (tgt := 24) dX7_fellsOne_1 (by decide) (fun c1 => ?_) (fun c1 => ?_)
  · skip
    refine j_iload_n dX7_fellsOne_24 rfl ?_
    refine j_iconst (v := 1) dX7_fellsOne_25 (by decide) ?_
    refine j_iadd dX7_fellsOne_26 ?_
    refine j_aload_n dX7_fellsOne_27 rfl ?_
    refine j_geti dX7_fellsOne_28 fl_X7_69 rfl (o_165 hr) ?_
    refine k_icmp_ge (tgt := 51) dX7_fellsOne_31 (by decide) (fun c31 c31' => ?_) (fun c31 c31' => ?_)
    · skip
      refine j_aload_n dX7_fellsOne_51 rfl ?_
      refine j_getr dX7_fellsOne_52 fl_X7_7 rfl (o_165 hr) (r_165_0 hr) ?_
      refine j_iload_n dX7_fellsOne_55 rfl ?_
      refine j_bipush (v := 12) dX7_fellsOne_56 (by decide) ?_
      refine j_iadd dX7_fellsOne_58 ?_
      refine j_iload_n dX7_fellsOne_59 rfl ?_
      refine j_iadd dX7_fellsOne_60 ?_
      refine j_iconst (v := 0) dX7_fellsOne_61 (by decide) ?_
      refine j_iast (k := ((r + 12) + k)) dX7_fellsOne_62 (a_166 hr) (by simp only [jl12, nI_add, pk_mul]) (by omega) ?_
      refine j_heap (h2 := (N, κ, ρ, rF2 μ r k b, ν)) (by simp only [rF2, rF1, c1, c31, c31', reduceIte, Bool.false_eq_true, Bool.true_eq_false, and_self, and_true, true_and, and_false, false_and, not_true_eq_false, not_false_eq_true, ne_eq, decide_true, decide_false, if_true, if_false, Bool.not_eq_true, Bool.not_eq_false]) ?_
      exact bd_fell (by omega) hr hrr hk (by rw [rF2_lo _ _ _ _ (by decide)]; exact hp) hp5 ⟨rfl, rfl⟩
    · skip
      have hk1 : k + 1 < 5 := w1_lt c31' hp hp5 hk
      refine j_aload_n dX7_fellsOne_34 rfl ?_
      refine j_getr dX7_fellsOne_35 fl_X7_7 rfl (o_165 hr) (r_165_0 hr) ?_
      refine j_iload_n dX7_fellsOne_38 rfl ?_
      refine j_bipush (v := 17) dX7_fellsOne_39 (by decide) ?_
      refine j_iadd dX7_fellsOne_41 ?_
      refine j_iload_n dX7_fellsOne_42 rfl ?_
      refine j_iadd dX7_fellsOne_43 ?_
      refine j_iconst (v := 1) dX7_fellsOne_44 (by decide) ?_
      refine j_iadd dX7_fellsOne_45 ?_
      refine j_dup2 dX7_fellsOne_46 rfl rfl ?_
      refine j_iald (k := (((r + 17) + k) + 1)) dX7_fellsOne_47 (a_166 hr) (by simp only [jl1, jl17, nI_add, pk_mul]) (by omega) ?_
      refine j_iconst (v := 1) dX7_fellsOne_48 (by decide) ?_
      refine j_iadd dX7_fellsOne_49 ?_
      refine j_iast (k := (((r + 17) + k) + 1)) dX7_fellsOne_50 (a_166 hr) (by simp only [jl1, jl17, nI_add, pk_mul]) (by omega) ?_
      refine j_aload_n dX7_fellsOne_51 rfl ?_
      refine j_getr dX7_fellsOne_52 fl_X7_7 rfl (o_165 hr) (r_165_0 hr) ?_
      refine j_iload_n dX7_fellsOne_55 rfl ?_
      refine j_bipush (v := 12) dX7_fellsOne_56 (by decide) ?_
      refine j_iadd dX7_fellsOne_58 ?_
      refine j_iload_n dX7_fellsOne_59 rfl ?_
      refine j_iadd dX7_fellsOne_60 ?_
      refine j_iconst (v := 0) dX7_fellsOne_61 (by decide) ?_
      refine j_iast (k := ((r + 12) + k)) dX7_fellsOne_62 (a_166 hr) (by simp only [jl12, nI_add, pk_mul]) (by omega) ?_
      refine j_heap (h2 := (N, κ, ρ, rF2 μ r k b, ν)) (by simp only [rF2, rF1, c1, c31, c31', reduceIte, Bool.false_eq_true, Bool.true_eq_false, and_self, and_true, true_and, and_false, false_and, not_true_eq_false, not_false_eq_true, ne_eq, decide_true, decide_false, if_true, if_false, Bool.not_eq_true, Bool.not_eq_false]) ?_
      exact bd_fell (by omega) hr hrr hk (by rw [rF2_lo _ _ _ _ (by decide)]; exact hp) hp5 ⟨rfl, rfl⟩
  · skip
    refine j_aload_n dX7_fellsOne_4 rfl ?_
    refine j_getr dX7_fellsOne_5 fl_X7_7 rfl (o_165 hr) (r_165_0 hr) ?_
    refine j_iload_n dX7_fellsOne_8 rfl ?_
    refine j_iconst (v := 0) dX7_fellsOne_9 (by decide) ?_
    refine j_iadd dX7_fellsOne_10 ?_
    refine j_dup2 dX7_fellsOne_11 rfl rfl ?_
    refine j_iald (k := (r + 0)) dX7_fellsOne_12 (a_166 hr) (by simp only [jl0, nI_add, pk_mul]) (by omega) ?_
    refine j_aload_n dX7_fellsOne_13 rfl ?_
    refine j_getr dX7_fellsOne_14 fl_X7_16 rfl (o_165 hr) (r_165_5 hr) ?_
    refine j_iload_n dX7_fellsOne_17 rfl ?_
    refine j_iald (k := k) dX7_fellsOne_18 (a_168 hr) rfl (by omega) ?_
    refine j_iadd dX7_fellsOne_19 ?_
    refine j_iast (k := (r + 0)) dX7_fellsOne_20 (a_166 hr) (by simp only [jl0, nI_add, pk_mul]) (by omega) ?_
    refine j_goto (tgt := 51) dX7_fellsOne_21 (by decide) ?_
    refine j_aload_n dX7_fellsOne_51 rfl ?_
    refine j_getr dX7_fellsOne_52 fl_X7_7 rfl (o_165 hr) (r_165_0 hr) ?_
    refine j_iload_n dX7_fellsOne_55 rfl ?_
    refine j_bipush (v := 12) dX7_fellsOne_56 (by decide) ?_
    refine j_iadd dX7_fellsOne_58 ?_
    refine j_iload_n dX7_fellsOne_59 rfl ?_
    refine j_iadd dX7_fellsOne_60 ?_
    refine j_iconst (v := 0) dX7_fellsOne_61 (by decide) ?_
    refine j_iast (k := ((r + 12) + k)) dX7_fellsOne_62 (a_166 hr) (by simp only [jl12, nI_add, pk_mul]) (by omega) ?_
    refine j_heap (h2 := (N, κ, ρ, rF2 μ r k b, ν)) (by simp only [rF2, rF1, c1, reduceIte, Bool.false_eq_true, Bool.true_eq_false, and_self, and_true, true_and, and_false, false_and, not_true_eq_false, not_false_eq_true, ne_eq, decide_true, decide_false, if_true, if_false, Bool.not_eq_true, Bool.not_eq_false]) ?_
    exact bd_fell (by omega) hr hrr hk (by rw [rF2_lo _ _ _ _ (by decide)]; exact hp) hp5 ⟨rfl, rfl⟩

