def rRound (m : jMem) (u : Nat) (k : Int32) : Int32 × jMem :=
  if rIsW m k = true then (if rSt m 0 k.toNatClampNeg = true then (if m 166 (12 + k.toNatClampNeg) = 7 then (-3, m) else (rRo (rMinds m u) 0 k.toNatClampNeg 166 (12 + k.toNatClampNeg), rRo (rMinds m u) 0 k.toNatClampNeg)) else (-2, m)) else (-1, m)
def rBlast (m : jMem) (u : Nat) (k n : Int32) (p : Nat) : Option (Int32 × jMem) :=
  if rIsW m k = true ∧ rIn n.toInt64 1 9 = true then (if rSt m 0 k.toNatClampNeg = true then rBl (rMinds m u) 0 k.toNatClampNeg n p else some (-2, m)) else some (-1, m)
def rPass (m : jMem) (u : Nat) (n : Int32) (p : Nat) : Int32 × jMem :=
  if rIn n.toInt64 1 24 = true then (it (fun _ m => rPs m 0 p) n.toNatClampNeg 0 (rMinds m u) 166 1, it (fun _ m => rPs m 0 p) n.toNatClampNeg 0 (rMinds m u)) else (-1, m)
def rProp (m : jMem) (u : Nat) (x y s : Int32) : Int32 × jMem :=
  if rIsW m x = true ∧ rIsW m y = true ∧ ¬ x = y ∧ rIn s.toInt64 0 40 = true then (if m 166 (27 + 5 * x.toNatClampNeg + y.toNatClampNeg) = s then (-2, m) else (m 166 (27 + 5 * x.toNatClampNeg + y.toNatClampNeg), jup (rMinds m u) 166 (27 + 5 * x.toNatClampNeg + y.toNatClampNeg) s)) else (-1, m)
def rUse (m : jMem) (u : Nat) (n : Int32) : Int32 × jMem :=
  if rIn n.toInt64 1 60 = true then (if n ≤ m 166 0 then (jup (rMinds m u) 166 0 (rMinds m u 166 0 - n) 166 0, jup (rMinds m u) 166 0 (rMinds m u 166 0 - n)) else (-2, m)) else (-1, m)
def rUndo (m : jMem) (u : Nat) : Int32 × jMem :=
  if m 165 1 = 0 then (-2, m) else (rCopy (jup m 165 1 (nI (u - 1))) (208 + 52 * (u - 1)) 0 165 1, rCopy (jup m 165 1 (nI (u - 1))) (208 + 52 * (u - 1)) 0)
theorem rPs_lo (m : jMem) (r p : Nat) {x y : Nat} (h : x ≠ 166) : rPs m r p x y = m x y := by
  unfold rPs
  rw [jup_oth h, it_lo (fun i m => rPsF_lo r i m h)]
set_option maxRecDepth 20000 in
theorem r_round {G : jG} {N : Nat} {κ : Nat → jK} {ρ : Nat → Nat → Option Nat} {μ : Nat → Nat → Int32} {ν : Nat → Nat → Int64} (hr : shR N κ ρ) {u : Nat} (hu : μ 165 1 = nI u) (hu8 : u ≤ 8) {p : Nat} (hp : μ 165 3 = nI p) (hp5 : p ≤ 5) {k : Int32} : MT G yX7_round cX7_round 2 (some .int) 2 0 0 [.ref 165, .int k] (N, κ, ρ, μ, ν) (some (.int (rRound μ u k).1)) (N, κ, ρ, (rRound μ u k).2, ν) := by
  refine jMT (ini := false) my_X7_round (fun h => by cases h) (jRv_i _) (Nat.le_of_ble_eq_true rfl) ?_
  show J G RX7 cX7_round 2 false 2 _ 0 0 (N, κ, ρ, μ, ν) 0 [some (.ref 165), some (.int k)] []
  generalize hQe : (fun (v' : Option Value) (h'' : jH) => v' = (some (.int (rRound μ u k).1)) ∧ h'' = (N, κ, ρ, (rRound μ u k).2, ν)) = Q
  have hQ : Q (some (.int (rRound μ u k).1)) (N, κ, ρ, (rRound μ u k).2, ν) := by rw [← hQe]; exact ⟨rfl, rfl⟩
  clear hQe
  refine j_aload_n dX7_round_0 rfl ?_
  refine j_iload_n dX7_round_1 rfl ?_
  refine j_cV1r dX7_round_2 (r_isWall hr) ml_X7_130 my_X7_isWall mi_X7_isWall (o_165 hr) rfl (by omega) (Nat.le_of_ble_eq_true rfl) (Nat.le_of_ble_eq_true rfl) ?_
  refine j_if_neB (tgt := 10) dX7_round_5 (by decide) (fun c5 => ?_) (fun c5 => ?_)
  · skip
    obtain ⟨i, hi, rfl⟩ := in_wall hp hp5 c5
    have ei : (nI i).toNatClampNeg = i := nI_clamp (by omega)
    refine j_aload_n dX7_round_10 rfl ?_
    refine j_iconst (v := 0) dX7_round_11 (by decide) ?_
    refine j_iload_n dX7_round_12 rfl ?_
    refine j_cV2r dX7_round_13 (r_stands (r := 0) (k := i) hr (by omega) (by omega)) ml_X7_138 my_X7_stands mi_X7_stands (o_165 hr) rfl (by omega) (Nat.le_of_ble_eq_true rfl) (Nat.le_of_ble_eq_true rfl) ?_
    refine j_if_neB (tgt := 22) dX7_round_16 (by decide) (fun c16 => ?_) (fun c16 => ?_)
    · skip
      refine j_aload_n dX7_round_22 rfl ?_
      refine j_getr dX7_round_23 fl_X7_7 rfl (o_165 hr) (r_165_0 hr) ?_
      refine j_bipush (v := 12) dX7_round_26 (by decide) ?_
      refine j_iload_n dX7_round_28 rfl ?_
      refine j_iadd dX7_round_29 ?_
      refine j_iald (k := (12 + i)) dX7_round_30 (a_166 hr) (by simp only [jl12, nI_add, pk_mul]) (by omega) ?_
      refine j_bipush (v := 7) dX7_round_31 (by decide) ?_
      refine j_icmp_ne (tgt := 39) dX7_round_33 (by decide) (fun c33 => ?_) (fun c33 => ?_)
      · skip
        refine j_aload_n dX7_round_39 rfl ?_
        refine j_cV0v dX7_round_40 (r_minds (u := u) hr hu hu8) ml_X7_157 my_X7_minds mi_X7_minds (o_165 hr) rfl (by omega) (Nat.le_of_ble_eq_true rfl) (Nat.le_of_ble_eq_true rfl) ?_
        refine j_aload_n dX7_round_43 rfl ?_
        refine j_iconst (v := 0) dX7_round_44 (by decide) ?_
        refine j_iload_n dX7_round_45 rfl ?_
        refine j_cV2v dX7_round_46 (r_ro (r := 0) (k := i) hr (by omega) (by omega)) ml_X7_160 my_X7_roundsOne mi_X7_roundsOne (o_165 hr) rfl (by omega) (Nat.le_of_ble_eq_true rfl) (Nat.le_of_ble_eq_true rfl) ?_
        refine j_aload_n dX7_round_49 rfl ?_
        refine j_getr dX7_round_50 fl_X7_7 rfl (o_165 hr) (r_165_0 hr) ?_
        refine j_bipush (v := 12) dX7_round_53 (by decide) ?_
        refine j_iload_n dX7_round_55 rfl ?_
        refine j_iadd dX7_round_56 ?_
        refine j_iald (k := (12 + i)) dX7_round_57 (a_166 hr) (by simp only [jl12, nI_add, pk_mul]) (by omega) ?_
        exact j_iret dX7_round_58 (by simpa only [rRound, c5, ei, c16, c33, reduceIte, Bool.false_eq_true, Bool.true_eq_false, and_self, and_true, true_and, and_false, false_and, not_true_eq_false, not_false_eq_true, ne_eq, decide_true, decide_false, if_true, if_false, Bool.not_eq_true, Bool.not_eq_false] using hQ)
      · skip
        refine j_bipush (v := (-3)) dX7_round_36 (by decide) ?_
        exact j_iret dX7_round_38 (by simpa only [rRound, c5, ei, c16, eq_true c33, reduceIte, Bool.false_eq_true, Bool.true_eq_false, and_self, and_true, true_and, and_false, false_and, not_true_eq_false, not_false_eq_true, ne_eq, decide_true, decide_false, if_true, if_false, Bool.not_eq_true, Bool.not_eq_false] using hQ)
    · skip
      refine j_bipush (v := (-2)) dX7_round_19 (by decide) ?_
      exact j_iret dX7_round_21 (by simpa only [rRound, c5, ei, c16, reduceIte, Bool.false_eq_true, Bool.true_eq_false, and_self, and_true, true_and, and_false, false_and, not_true_eq_false, not_false_eq_true, ne_eq, decide_true, decide_false, if_true, if_false, Bool.not_eq_true, Bool.not_eq_false] using hQ)
  · skip
    refine j_iconst (v := (-1)) dX7_round_8 (by decide) ?_
    exact j_iret dX7_round_9 (by simpa only [rRound, c5, reduceIte, Bool.false_eq_true, Bool.true_eq_false, and_self, and_true, true_and, and_false, false_and, not_true_eq_false, not_false_eq_true, ne_eq, decide_true, decide_false, if_true, if_false, Bool.not_eq_true, Bool.not_eq_false] using hQ)

set_option maxRecDepth 20000 in
theorem r_blast {G : jG} {N : Nat} {κ : Nat → jK} {ρ : Nat → Nat → Option Nat} {μ : Nat → Nat → Int32} {ν : Nat → Nat → Int64} (hr : shR N κ ρ) {u : Nat} (hu : μ 165 1 = nI u) (hu8 : u ≤ 8) {p : Nat} (hp : μ 165 3 = nI p) (hp5 : p ≤ 5) {k n : Int32} {zv : Int32} {zm : jMem} (zhb : rBlast μ u k n p = some (zv, zm)) : MT G yX7_blast cX7_blast 3 (some .int) 4 0 0 [.ref 165, .int k, .int n] (N, κ, ρ, μ, ν) (some (.int zv)) (N, κ, ρ, zm, ν) := by
  refine jMT (ini := false) my_X7_blast (fun h => by cases h) (jRv_i _) (Nat.le_of_ble_eq_true rfl) ?_
  show J G RX7 cX7_blast 3 false 4 _ 0 0 (N, κ, ρ, μ, ν) 0 [some (.ref 165), some (.int k), some (.int n)] []
  generalize hQe : (fun (v' : Option Value) (h'' : jH) => v' = (some (.int zv)) ∧ h'' = (N, κ, ρ, zm, ν)) = Q
  have hQ : Q (some (.int zv)) (N, κ, ρ, zm, ν) := by rw [← hQe]; exact ⟨rfl, rfl⟩
  clear hQe
  refine j_aload_n dX7_blast_0 rfl ?_
  refine j_iload_n dX7_blast_1 rfl ?_
  refine j_cV1r dX7_blast_2 (r_isWall hr) ml_X7_130 my_X7_isWall mi_X7_isWall (o_165 hr) rfl (by omega) (Nat.le_of_ble_eq_true rfl) (Nat.le_of_ble_eq_true rfl) ?_
  refine j_if_eqB (tgt := 20) dX7_blast_5 (by decide) (fun c5 => ?_) (fun c5 => ?_)
  · skip
    refine j_iconst (v := (-1)) dX7_blast_20 (by decide) ?_
    (simp only [rBlast, c5, reduceIte, Bool.false_eq_true, Bool.true_eq_false, and_self, and_true, true_and, and_false, false_and, not_true_eq_false, not_false_eq_true, ne_eq, decide_true, decide_false, if_true, if_false, Bool.not_eq_true, Bool.not_eq_false] at zhb; cases zhb; exact j_iret dX7_blast_21 hQ)
  · skip
    obtain ⟨i, hi, rfl⟩ := in_wall hp hp5 c5
    have ei : (nI i).toNatClampNeg = i := nI_clamp (by omega)
    refine j_iload_n dX7_blast_8 rfl ?_
    refine j_i2l dX7_blast_9 ?_
    refine j_lconst (v := 1) dX7_blast_10 (by decide) ?_
    refine j_ldc2 dX7_blast_11 ct_X7_163 ?_
    refine j_cS3r dX7_blast_14 r_in ml_X7_72 my_X7_in ms_X7_in (by omega) (Nat.le_of_ble_eq_true rfl) (Nat.le_of_ble_eq_true rfl) ?_
    refine j_if_neB (tgt := 22) dX7_blast_17 (by decide) (fun c17 => ?_) (fun c17 => ?_)
    · skip
      refine j_aload_n dX7_blast_22 rfl ?_
      refine j_iconst (v := 0) dX7_blast_23 (by decide) ?_
      refine j_iload_n dX7_blast_24 rfl ?_
      refine j_cV2r dX7_blast_25 (r_stands (r := 0) (k := i) hr (by omega) (by omega)) ml_X7_138 my_X7_stands mi_X7_stands (o_165 hr) rfl (by omega) (Nat.le_of_ble_eq_true rfl) (Nat.le_of_ble_eq_true rfl) ?_
      refine j_if_neB (tgt := 34) dX7_blast_28 (by decide) (fun c28 => ?_) (fun c28 => ?_)
      · skip
        refine j_aload_n dX7_blast_34 rfl ?_
        refine j_cV0v dX7_blast_35 (r_minds (u := u) hr hu hu8) ml_X7_157 my_X7_minds mi_X7_minds (o_165 hr) rfl (by omega) (Nat.le_of_ble_eq_true rfl) (Nat.le_of_ble_eq_true rfl) ?_
        refine j_aload_n dX7_blast_38 rfl ?_
        refine j_iconst (v := 0) dX7_blast_39 (by decide) ?_
        refine j_iload_n dX7_blast_40 rfl ?_
        refine j_iload_n dX7_blast_41 rfl ?_
        simp only [rBlast, ei, c5, c17, c28, and_self, reduceIte] at zhb
        refine j_cV3r dX7_blast_42 (r_blasts hr (by omega) ((rMinds_lo _ _ (by decide) (Or.inr (by decide))).trans hp) hp5 (by omega) zhb) ml_X7_165 my_X7_blasts mi_X7_blasts (o_165 hr) rfl (by omega) (Nat.le_of_ble_eq_true rfl) (Nat.le_of_ble_eq_true rfl) ?_
        exact j_iret dX7_blast_45 hQ
      · skip
        refine j_bipush (v := (-2)) dX7_blast_31 (by decide) ?_
        (simp only [rBlast, c5, ei, c17, c28, reduceIte, Bool.false_eq_true, Bool.true_eq_false, and_self, and_true, true_and, and_false, false_and, not_true_eq_false, not_false_eq_true, ne_eq, decide_true, decide_false, if_true, if_false, Bool.not_eq_true, Bool.not_eq_false] at zhb; cases zhb; exact j_iret dX7_blast_33 hQ)
    · skip
      refine j_iconst (v := (-1)) dX7_blast_20 (by decide) ?_
      (simp only [rBlast, c5, ei, c17, reduceIte, Bool.false_eq_true, Bool.true_eq_false, and_self, and_true, true_and, and_false, false_and, not_true_eq_false, not_false_eq_true, ne_eq, decide_true, decide_false, if_true, if_false, Bool.not_eq_true, Bool.not_eq_false] at zhb; cases zhb; exact j_iret dX7_blast_21 hQ)

set_option maxRecDepth 20000 in
theorem lr_pass {G : jG} {N : Nat} {κ : Nat → jK} {ρ : Nat → Nat → Option Nat} {ν : Nat → Nat → Int64} {Q : Option Value → jH → Prop} {d : Nat} (hd1 : 2 ≤ d) {p n : Nat} {μ : jMem} (hr : shR N κ ρ) (hp : μ 165 3 = nI p) (hp5 : p ≤ 5) (hn : n ≤ 40) (K : J G RX7 cX7_pass 3 false d Q 0 0 (N, κ, ρ, (it (fun _ m => rPs m 0 p) n 0 μ), ν) 36 [some (.ref 165), some (.int (nI n)), some (.int (nI n))] []) : J G RX7 cX7_pass 3 false d Q 0 0 (N, κ, ρ, μ, ν) 20 [some (.ref 165), some (.int (nI n)), some (.int (nI 0))] [] := by
  refine it_loop (f := fun _ m => rPs m 0 p) (p := n) (fun i s => J G RX7 cX7_pass 3 false d Q 0 0 (N, κ, ρ, s, ν) 20 [some (.ref 165), some (.int (nI n)), some (.int (nI i))] []) (fun s => J G RX7 cX7_pass 3 false d Q 0 0 (N, κ, ρ, s, ν) 36 [some (.ref 165), some (.int (nI n)), some (.int (nI n))] []) (fun _ s => s 165 3 = nI p) ?_ ?_ (fun i s _ h => by rw [rPs_lo s 0 p (by decide)]; exact h) n 0 μ (by omega) hp K
  · intro s hI K
    replace hp := hI
    refine j_iload_n dX7_pass_20 rfl ?_
    refine j_iload_n dX7_pass_21 rfl ?_
    refine k_icmp_ge (tgt := 36) dX7_pass_22 (by decide) (fun c22 c22' => ?_) (fun c22 c22' => ?_)
    · skip
      exact K
    · skip
      exact absurd (Int32.le_refl _) c22
  · intro i s hi hI K
    (try dsimp only at K)
    replace hp := hI
    refine j_iload_n dX7_pass_20 rfl ?_
    refine j_iload_n dX7_pass_21 rfl ?_
    refine k_icmp_ge (tgt := 36) dX7_pass_22 (by decide) (fun c22 c22' => ?_) (fun c22 c22' => ?_)
    · skip
      exact absurd c22 (nI_ge (by omega) (by omega))
    · skip
      refine j_aload_n dX7_pass_25 rfl ?_
      refine j_iconst (v := 0) dX7_pass_26 (by decide) ?_
      refine j_cV1v dX7_pass_27 (r_ps (r := 0) hr (by omega) hp hp5) ml_X7_171 my_X7_passes mi_X7_passes (o_165 hr) rfl (by omega) (Nat.le_of_ble_eq_true rfl) (Nat.le_of_ble_eq_true rfl) ?_
      refine j_iinc_2 (v := nI (i + 1)) dX7_pass_30 (nI_add _ _) rfl ?_
      refine j_goto (tgt := 20) dX7_pass_33 (by decide) ?_
      (try simp only [c22, c22', reduceIte, Bool.false_eq_true, Bool.true_eq_false, and_self, and_true, true_and, and_false, false_and, not_true_eq_false, not_false_eq_true, ne_eq, decide_true, decide_false, if_true, if_false, Bool.not_eq_true, Bool.not_eq_false] at K)
      exact K

set_option maxRecDepth 20000 in
theorem r_pass {G : jG} {N : Nat} {κ : Nat → jK} {ρ : Nat → Nat → Option Nat} {μ : Nat → Nat → Int32} {ν : Nat → Nat → Int64} (hr : shR N κ ρ) {u : Nat} (hu : μ 165 1 = nI u) (hu8 : u ≤ 8) {p : Nat} (hp : μ 165 3 = nI p) (hp5 : p ≤ 5) {n : Int32} : MT G yX7_pass cX7_pass 3 (some .int) 3 0 0 [.ref 165, .int n] (N, κ, ρ, μ, ν) (some (.int (rPass μ u n p).1)) (N, κ, ρ, (rPass μ u n p).2, ν) := by
  refine jMT (ini := false) my_X7_pass (fun h => by cases h) (jRv_i _) (Nat.le_of_ble_eq_true rfl) ?_
  show J G RX7 cX7_pass 3 false 3 _ 0 0 (N, κ, ρ, μ, ν) 0 [some (.ref 165), some (.int n), none] []
  generalize hQe : (fun (v' : Option Value) (h'' : jH) => v' = (some (.int (rPass μ u n p).1)) ∧ h'' = (N, κ, ρ, (rPass μ u n p).2, ν)) = Q
  have hQ : Q (some (.int (rPass μ u n p).1)) (N, κ, ρ, (rPass μ u n p).2, ν) := by rw [← hQe]; exact ⟨rfl, rfl⟩
  clear hQe
  refine j_iload_n dX7_pass_0 rfl ?_
  refine j_i2l dX7_pass_1 ?_
  refine j_lconst (v := 1) dX7_pass_2 (by decide) ?_
  refine j_ldc2 dX7_pass_3 ct_X7_169 ?_
  refine j_cS3r dX7_pass_6 r_in ml_X7_72 my_X7_in ms_X7_in (by omega) (Nat.le_of_ble_eq_true rfl) (Nat.le_of_ble_eq_true rfl) ?_
  refine j_if_neB (tgt := 14) dX7_pass_9 (by decide) (fun c9 => ?_) (fun c9 => ?_)
  · skip
    obtain ⟨v, hv1, hv2, rfl⟩ := rin_lh (l := 1) (h := 24) (by decide) (by decide) c9
    have ev : (nI v).toNatClampNeg = v := nI_clamp (by omega)
    refine j_aload_n dX7_pass_14 rfl ?_
    refine j_cV0v dX7_pass_15 (r_minds (u := u) hr hu hu8) ml_X7_157 my_X7_minds mi_X7_minds (o_165 hr) rfl (by omega) (Nat.le_of_ble_eq_true rfl) (Nat.le_of_ble_eq_true rfl) ?_
    refine j_iconst (v := 0) dX7_pass_18 (by decide) ?_
    refine j_istore_2 dX7_pass_19 rfl ?_
    refine lr_pass (by omega) hr ((rMinds_lo _ _ (by decide) (Or.inr (by decide))).trans hp) hp5 (by omega) ?_
    refine j_aload_n dX7_pass_36 rfl ?_
    refine j_getr dX7_pass_37 fl_X7_7 rfl (o_165 hr) (r_165_0 hr) ?_
    refine j_iconst (v := 1) dX7_pass_40 (by decide) ?_
    refine j_iald (k := 1) dX7_pass_41 (a_166 hr) rfl (by omega) ?_
    exact j_iret dX7_pass_42 (by simpa only [rPass, c9, ev, reduceIte, Bool.false_eq_true, Bool.true_eq_false, and_self, and_true, true_and, and_false, false_and, not_true_eq_false, not_false_eq_true, ne_eq, decide_true, decide_false, if_true, if_false, Bool.not_eq_true, Bool.not_eq_false] using hQ)
  · skip
    refine j_iconst (v := (-1)) dX7_pass_12 (by decide) ?_
    exact j_iret dX7_pass_13 (by simpa only [rPass, c9, reduceIte, Bool.false_eq_true, Bool.true_eq_false, and_self, and_true, true_and, and_false, false_and, not_true_eq_false, not_false_eq_true, ne_eq, decide_true, decide_false, if_true, if_false, Bool.not_eq_true, Bool.not_eq_false] using hQ)

set_option maxRecDepth 20000 in
theorem r_prop {G : jG} {N : Nat} {κ : Nat → jK} {ρ : Nat → Nat → Option Nat} {μ : Nat → Nat → Int32} {ν : Nat → Nat → Int64} (hr : shR N κ ρ) {u : Nat} (hu : μ 165 1 = nI u) (hu8 : u ≤ 8) {p : Nat} (hp : μ 165 3 = nI p) (hp5 : p ≤ 5) {x y s : Int32} : MT G yX7_prop cX7_prop 5 (some .int) 2 0 0 [.ref 165, .int x, .int y, .int s] (N, κ, ρ, μ, ν) (some (.int (rProp μ u x y s).1)) (N, κ, ρ, (rProp μ u x y s).2, ν) := by
  refine jMT (ini := false) my_X7_prop (fun h => by cases h) (jRv_i _) (Nat.le_of_ble_eq_true rfl) ?_
  show J G RX7 cX7_prop 5 false 2 _ 0 0 (N, κ, ρ, μ, ν) 0 [some (.ref 165), some (.int x), some (.int y), some (.int s), none] []
  generalize hQe : (fun (v' : Option Value) (h'' : jH) => v' = (some (.int (rProp μ u x y s).1)) ∧ h'' = (N, κ, ρ, (rProp μ u x y s).2, ν)) = Q
  have hQ : Q (some (.int (rProp μ u x y s).1)) (N, κ, ρ, (rProp μ u x y s).2, ν) := by rw [← hQe]; exact ⟨rfl, rfl⟩
  clear hQe
  refine j_aload_n dX7_prop_0 rfl ?_
  refine j_iload_n dX7_prop_1 rfl ?_
  refine j_cV1r dX7_prop_2 (r_isWall hr) ml_X7_130 my_X7_isWall mi_X7_isWall (o_165 hr) rfl (by omega) (Nat.le_of_ble_eq_true rfl) (Nat.le_of_ble_eq_true rfl) ?_
  refine j_if_eqB (tgt := 33) dX7_prop_5 (by decide) (fun c5 => ?_) (fun c5 => ?_)
  · skip
    refine j_iconst (v := (-1)) dX7_prop_33 (by decide) ?_
    exact j_iret dX7_prop_34 (by simpa only [rProp, c5, reduceIte, Bool.false_eq_true, Bool.true_eq_false, and_self, and_true, true_and, and_false, false_and, not_true_eq_false, not_false_eq_true, ne_eq, decide_true, decide_false, if_true, if_false, Bool.not_eq_true, Bool.not_eq_false] using hQ)
  · skip
    obtain ⟨i, hi, rfl⟩ := in_wall hp hp5 c5
    have ei : (nI i).toNatClampNeg = i := nI_clamp (by omega)
    refine j_aload_n dX7_prop_8 rfl ?_
    refine j_iload_n dX7_prop_9 rfl ?_
    refine j_cV1r dX7_prop_10 (r_isWall hr) ml_X7_130 my_X7_isWall mi_X7_isWall (o_165 hr) rfl (by omega) (Nat.le_of_ble_eq_true rfl) (Nat.le_of_ble_eq_true rfl) ?_
    refine j_if_eqB (tgt := 33) dX7_prop_13 (by decide) (fun c13 => ?_) (fun c13 => ?_)
    · skip
      refine j_iconst (v := (-1)) dX7_prop_33 (by decide) ?_
      exact j_iret dX7_prop_34 (by simpa only [rProp, c5, ei, c13, reduceIte, Bool.false_eq_true, Bool.true_eq_false, and_self, and_true, true_and, and_false, false_and, not_true_eq_false, not_false_eq_true, ne_eq, decide_true, decide_false, if_true, if_false, Bool.not_eq_true, Bool.not_eq_false] using hQ)
    · skip
      obtain ⟨j, hj, rfl⟩ := in_wall hp hp5 c13
      have ej : (nI j).toNatClampNeg = j := nI_clamp (by omega)
      refine j_iload_n dX7_prop_16 rfl ?_
      refine j_iload_n dX7_prop_17 rfl ?_
      refine j_icmp_eq (tgt := 33) dX7_prop_18 (by decide) (fun c18 => ?_) (fun c18 => ?_)
      · skip
        refine j_iconst (v := (-1)) dX7_prop_33 (by decide) ?_
        exact j_iret dX7_prop_34 (by simpa only [rProp, c5, ei, c13, ej, eq_true c18, reduceIte, Bool.false_eq_true, Bool.true_eq_false, and_self, and_true, true_and, and_false, false_and, not_true_eq_false, not_false_eq_true, ne_eq, decide_true, decide_false, if_true, if_false, Bool.not_eq_true, Bool.not_eq_false] using hQ)
      · skip
        refine j_iload_n dX7_prop_21 rfl ?_
        refine j_i2l dX7_prop_22 ?_
        refine j_lconst (v := 0) dX7_prop_23 (by decide) ?_
        refine j_ldc2 dX7_prop_24 ct_X7_175 ?_
        refine j_cS3r dX7_prop_27 r_in ml_X7_72 my_X7_in ms_X7_in (by omega) (Nat.le_of_ble_eq_true rfl) (Nat.le_of_ble_eq_true rfl) ?_
        refine j_if_neB (tgt := 35) dX7_prop_30 (by decide) (fun c30 => ?_) (fun c30 => ?_)
        · skip
          refine j_aload_n dX7_prop_35 rfl ?_
          refine j_getr dX7_prop_36 fl_X7_7 rfl (o_165 hr) (r_165_0 hr) ?_
          refine j_bipush (v := 27) dX7_prop_39 (by decide) ?_
          refine j_iconst (v := 5) dX7_prop_41 (by decide) ?_
          refine j_iload_n dX7_prop_42 rfl ?_
          refine j_imul dX7_prop_43 ?_
          refine j_iadd dX7_prop_44 ?_
          refine j_iload_n dX7_prop_45 rfl ?_
          refine j_iadd dX7_prop_46 ?_
          refine j_iald (k := ((27 + (5 * i)) + j)) dX7_prop_47 (a_166 hr) (by simp only [jl5, jl27, nI_add, pk_mul]) (by omega) ?_
          refine j_istore_4 dX7_prop_48 rfl ?_
          refine j_iload dX7_prop_50 rfl ?_
          refine j_iload_n dX7_prop_52 rfl ?_
          refine j_icmp_ne (tgt := 59) dX7_prop_53 (by decide) (fun c53 => ?_) (fun c53 => ?_)
          · skip
            refine j_aload_n dX7_prop_59 rfl ?_
            refine j_cV0v dX7_prop_60 (r_minds (u := u) hr hu hu8) ml_X7_157 my_X7_minds mi_X7_minds (o_165 hr) rfl (by omega) (Nat.le_of_ble_eq_true rfl) (Nat.le_of_ble_eq_true rfl) ?_
            refine j_aload_n dX7_prop_63 rfl ?_
            refine j_getr dX7_prop_64 fl_X7_7 rfl (o_165 hr) (r_165_0 hr) ?_
            refine j_bipush (v := 27) dX7_prop_67 (by decide) ?_
            refine j_iconst (v := 5) dX7_prop_69 (by decide) ?_
            refine j_iload_n dX7_prop_70 rfl ?_
            refine j_imul dX7_prop_71 ?_
            refine j_iadd dX7_prop_72 ?_
            refine j_iload_n dX7_prop_73 rfl ?_
            refine j_iadd dX7_prop_74 ?_
            refine j_iload_n dX7_prop_75 rfl ?_
            refine j_iast (k := ((27 + (5 * i)) + j)) dX7_prop_76 (a_166 hr) (by simp only [jl5, jl27, nI_add, pk_mul]) (by omega) ?_
            refine j_iload dX7_prop_77 rfl ?_
            exact j_iret dX7_prop_79 (by simpa only [rProp, c5, ei, c13, ej, c18, c30, c53, reduceIte, Bool.false_eq_true, Bool.true_eq_false, and_self, and_true, true_and, and_false, false_and, not_true_eq_false, not_false_eq_true, ne_eq, decide_true, decide_false, if_true, if_false, Bool.not_eq_true, Bool.not_eq_false] using hQ)
          · skip
            refine j_bipush (v := (-2)) dX7_prop_56 (by decide) ?_
            exact j_iret dX7_prop_58 (by simpa only [rProp, c5, ei, c13, ej, c18, c30, eq_true c53, reduceIte, Bool.false_eq_true, Bool.true_eq_false, and_self, and_true, true_and, and_false, false_and, not_true_eq_false, not_false_eq_true, ne_eq, decide_true, decide_false, if_true, if_false, Bool.not_eq_true, Bool.not_eq_false] using hQ)
        · skip
          refine j_iconst (v := (-1)) dX7_prop_33 (by decide) ?_
          exact j_iret dX7_prop_34 (by simpa only [rProp, c5, ei, c13, ej, c18, c30, reduceIte, Bool.false_eq_true, Bool.true_eq_false, and_self, and_true, true_and, and_false, false_and, not_true_eq_false, not_false_eq_true, ne_eq, decide_true, decide_false, if_true, if_false, Bool.not_eq_true, Bool.not_eq_false] using hQ)

set_option maxRecDepth 20000 in
theorem r_use {G : jG} {N : Nat} {κ : Nat → jK} {ρ : Nat → Nat → Option Nat} {μ : Nat → Nat → Int32} {ν : Nat → Nat → Int64} (hr : shR N κ ρ) {u : Nat} (hu : μ 165 1 = nI u) (hu8 : u ≤ 8) {n : Int32} : MT G yX7_use cX7_use 2 (some .int) 2 0 0 [.ref 165, .int n] (N, κ, ρ, μ, ν) (some (.int (rUse μ u n).1)) (N, κ, ρ, (rUse μ u n).2, ν) := by
  refine jMT (ini := false) my_X7_use (fun h => by cases h) (jRv_i _) (Nat.le_of_ble_eq_true rfl) ?_
  show J G RX7 cX7_use 2 false 2 _ 0 0 (N, κ, ρ, μ, ν) 0 [some (.ref 165), some (.int n)] []
  generalize hQe : (fun (v' : Option Value) (h'' : jH) => v' = (some (.int (rUse μ u n).1)) ∧ h'' = (N, κ, ρ, (rUse μ u n).2, ν)) = Q
  have hQ : Q (some (.int (rUse μ u n).1)) (N, κ, ρ, (rUse μ u n).2, ν) := by rw [← hQe]; exact ⟨rfl, rfl⟩
  clear hQe
  refine j_iload_n dX7_use_0 rfl ?_
  refine j_i2l dX7_use_1 ?_
  refine j_lconst (v := 1) dX7_use_2 (by decide) ?_
  refine j_ldc2 dX7_use_3 ct_X7_177 ?_
  refine j_cS3r dX7_use_6 r_in ml_X7_72 my_X7_in ms_X7_in (by omega) (Nat.le_of_ble_eq_true rfl) (Nat.le_of_ble_eq_true rfl) ?_
  refine j_if_neB (tgt := 14) dX7_use_9 (by decide) (fun c9 => ?_) (fun c9 => ?_)
  · skip
    refine j_aload_n dX7_use_14 rfl ?_
    refine j_getr dX7_use_15 fl_X7_7 rfl (o_165 hr) (r_165_0 hr) ?_
    refine j_iconst (v := 0) dX7_use_18 (by decide) ?_
    refine j_iald (k := 0) dX7_use_19 (a_166 hr) rfl (by omega) ?_
    refine j_iload_n dX7_use_20 rfl ?_
    refine k_icmp_ge (tgt := 27) dX7_use_21 (by decide) (fun c21 c21' => ?_) (fun c21 c21' => ?_)
    · skip
      refine j_aload_n dX7_use_27 rfl ?_
      refine j_cV0v dX7_use_28 (r_minds (u := u) hr hu hu8) ml_X7_157 my_X7_minds mi_X7_minds (o_165 hr) rfl (by omega) (Nat.le_of_ble_eq_true rfl) (Nat.le_of_ble_eq_true rfl) ?_
      refine j_aload_n dX7_use_31 rfl ?_
      refine j_getr dX7_use_32 fl_X7_7 rfl (o_165 hr) (r_165_0 hr) ?_
      refine j_iconst (v := 0) dX7_use_35 (by decide) ?_
      refine j_dup2 dX7_use_36 rfl rfl ?_
      refine j_iald (k := 0) dX7_use_37 (a_166 hr) rfl (by omega) ?_
      refine j_iload_n dX7_use_38 rfl ?_
      refine j_isub dX7_use_39 ?_
      refine j_iast (k := 0) dX7_use_40 (a_166 hr) rfl (by omega) ?_
      refine j_aload_n dX7_use_41 rfl ?_
      refine j_getr dX7_use_42 fl_X7_7 rfl (o_165 hr) (r_165_0 hr) ?_
      refine j_iconst (v := 0) dX7_use_45 (by decide) ?_
      refine j_iald (k := 0) dX7_use_46 (a_166 hr) rfl (by omega) ?_
      exact j_iret dX7_use_47 (by simpa only [rUse, c9, c21, c21', reduceIte, Bool.false_eq_true, Bool.true_eq_false, and_self, and_true, true_and, and_false, false_and, not_true_eq_false, not_false_eq_true, ne_eq, decide_true, decide_false, if_true, if_false, Bool.not_eq_true, Bool.not_eq_false] using hQ)
    · skip
      refine j_bipush (v := (-2)) dX7_use_24 (by decide) ?_
      exact j_iret dX7_use_26 (by simpa only [rUse, c9, c21, c21', reduceIte, Bool.false_eq_true, Bool.true_eq_false, and_self, and_true, true_and, and_false, false_and, not_true_eq_false, not_false_eq_true, ne_eq, decide_true, decide_false, if_true, if_false, Bool.not_eq_true, Bool.not_eq_false] using hQ)
  · skip
    refine j_iconst (v := (-1)) dX7_use_12 (by decide) ?_
    exact j_iret dX7_use_13 (by simpa only [rUse, c9, reduceIte, Bool.false_eq_true, Bool.true_eq_false, and_self, and_true, true_and, and_false, false_and, not_true_eq_false, not_false_eq_true, ne_eq, decide_true, decide_false, if_true, if_false, Bool.not_eq_true, Bool.not_eq_false] using hQ)

set_option maxRecDepth 20000 in
theorem r_undo {G : jG} {N : Nat} {κ : Nat → jK} {ρ : Nat → Nat → Option Nat} {μ : Nat → Nat → Int32} {ν : Nat → Nat → Int64} (hr : shR N κ ρ) {u : Nat} (hu : μ 165 1 = nI u) (hu8 : u ≤ 8) : MT G yX7_undo cX7_undo 1 (some .int) 1 0 0 [.ref 165] (N, κ, ρ, μ, ν) (some (.int (rUndo μ u).1)) (N, κ, ρ, (rUndo μ u).2, ν) := by
  refine jMT (ini := false) my_X7_undo (fun h => by cases h) (jRv_i _) (Nat.le_of_ble_eq_true rfl) ?_
  show J G RX7 cX7_undo 1 false 1 _ 0 0 (N, κ, ρ, μ, ν) 0 [some (.ref 165)] []
  generalize hQe : (fun (v' : Option Value) (h'' : jH) => v' = (some (.int (rUndo μ u).1)) ∧ h'' = (N, κ, ρ, (rUndo μ u).2, ν)) = Q
  have hQ : Q (some (.int (rUndo μ u).1)) (N, κ, ρ, (rUndo μ u).2, ν) := by rw [← hQe]; exact ⟨rfl, rfl⟩
  clear hQe
  refine j_aload_n dX7_undo_0 rfl ?_
  refine j_geti dX7_undo_1 fl_X7_79 rfl (o_165 hr) ?_
  refine j_if_ne (tgt := 10) dX7_undo_4 (by decide) (fun c4 => ?_) (fun c4 => ?_)
  · skip
    have eu : 0 < u := Nat.pos_of_ne_zero (fun z => c4 (by rw [hu, z]; rfl))
    refine j_aload_n dX7_undo_10 rfl ?_
    refine j_dup dX7_undo_11 rfl ?_
    refine j_geti dX7_undo_12 fl_X7_79 rfl (o_165 hr) ?_
    refine j_iconst (v := 1) dX7_undo_15 (by decide) ?_
    refine j_isub dX7_undo_16 ?_
    refine j_topi (w := nI (u - 1)) (by rw [hu]; exact nI_predS eu) ?_
    refine j_puti dX7_undo_17 fl_X7_79 rfl (o_165 hr) ?_
    refine j_aload_n dX7_undo_20 rfl ?_
    refine j_sipush (v := 208) dX7_undo_21 (by decide) ?_
    refine j_bipush (v := 52) dX7_undo_24 (by decide) ?_
    refine j_aload_n dX7_undo_26 rfl ?_
    refine j_geti dX7_undo_27 fl_X7_79 rfl (o_165 hr) ?_
    refine j_topi (w := nI (u - 1)) (jup_self _ _ _ _) ?_
    refine j_imul dX7_undo_30 ?_
    refine j_topi (w := nI (52 * (u - 1))) (by rw [show (52 : Int32) = nI 52 from rfl, pk_mul]) ?_
    refine j_iadd dX7_undo_31 ?_
    refine j_topi (w := nI (208 + 52 * (u - 1))) (by rw [show (208 : Int32) = nI 208 from rfl, nI_add]) ?_
    refine j_iconst (v := 0) dX7_undo_32 (by decide) ?_
    refine j_cV2v dX7_undo_33 (r_copy (f := (208 + 52 * (u - 1))) (t := 0) hr (by omega) (by omega)) ml_X7_153 my_X7_copy mi_X7_copy (o_165 hr) rfl (by omega) (Nat.le_of_ble_eq_true rfl) (Nat.le_of_ble_eq_true rfl) ?_
    refine j_aload_n dX7_undo_36 rfl ?_
    refine j_geti dX7_undo_37 fl_X7_79 rfl (o_165 hr) ?_
    exact j_iret dX7_undo_40 (by simpa only [rUndo, c4, reduceIte, Bool.false_eq_true, Bool.true_eq_false, and_self, and_true, true_and, and_false, false_and, not_true_eq_false, not_false_eq_true, ne_eq, decide_true, decide_false, if_true, if_false, Bool.not_eq_true, Bool.not_eq_false] using hQ)
  · skip
    refine j_bipush (v := (-2)) dX7_undo_7 (by decide) ?_
    exact j_iret dX7_undo_9 (by simpa only [rUndo, eq_true c4, reduceIte, Bool.false_eq_true, Bool.true_eq_false, and_self, and_true, true_and, and_false, false_and, not_true_eq_false, not_false_eq_true, ne_eq, decide_true, decide_false, if_true, if_false, Bool.not_eq_true, Bool.not_eq_false] using hQ)

