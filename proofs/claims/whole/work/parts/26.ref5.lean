set_option maxRecDepth 20000 in
theorem r_blasts {G : jG} {N : Nat} {κ : Nat → jK} {ρ : Nat → Nat → Option Nat} {μ : Nat → Nat → Int32} {ν : Nat → Nat → Int64} {r p k : Nat} {n : Int32} (hr : shR N κ ρ) (hrr : r + 52 ≤ 1196) (hp : μ 165 3 = nI p) (hp5 : p ≤ 5) (hk : k < 5) {zv : Int32} {zm : jMem} (zhb : rBl μ r k n p = some (zv, zm)) : MT G yX7_blasts cX7_blasts 5 (some .int) 3 0 0 [.ref 165, .int (nI r), .int (nI k), .int n] (N, κ, ρ, μ, ν) (some (.int zv)) (N, κ, ρ, zm, ν) := by
  refine jMT (ini := false) my_X7_blasts (fun h => by cases h) (jRv_i _) (Nat.le_of_ble_eq_true rfl) ?_
  show J G RX7 cX7_blasts 5 false 3 _ 0 0 (N, κ, ρ, μ, ν) 0 [some (.ref 165), some (.int (nI r)), some (.int (nI k)), some (.int n), none] []
  generalize hQe : (fun (v' : Option Value) (h'' : jH) => v' = (some (.int zv)) ∧ h'' = (N, κ, ρ, zm, ν)) = Q
  have hQ : Q (some (.int zv)) (N, κ, ρ, zm, ν) := by rw [← hQe]; exact ⟨rfl, rfl⟩
  clear hQe
  refine j_aload_n dX7_blasts_0 rfl ?_
  refine j_iload_n dX7_blasts_1 rfl ?_
  refine j_iload_n dX7_blasts_2 rfl ?_
  refine j_iload_n dX7_blasts_3 rfl ?_
  refine j_cV3r dX7_blasts_4 (r_wouldFall (r := r) (k := k) hr (by omega) (by omega)) ml_X7_146 my_X7_wouldFall mi_X7_wouldFall (o_165 hr) rfl (by omega) (Nat.le_of_ble_eq_true rfl) (Nat.le_of_ble_eq_true rfl) ?_
  refine j_if_neB (tgt := 66) dX7_blasts_7 (by decide) (fun c7 => ?_) (fun c7 => ?_)
  · skip
    refine j_aload_n dX7_blasts_66 rfl ?_
    refine j_getr dX7_blasts_67 fl_X7_7 rfl (o_165 hr) (r_165_0 hr) ?_
    refine j_iload_n dX7_blasts_70 rfl ?_
    refine j_bipush (v := 12) dX7_blasts_71 (by decide) ?_
    refine j_iadd dX7_blasts_73 ?_
    refine j_iload_n dX7_blasts_74 rfl ?_
    refine j_iadd dX7_blasts_75 ?_
    refine j_iald (k := ((r + 12) + k)) dX7_blasts_76 (a_166 hr) (by simp only [jl12, nI_add, pk_mul]) (by omega) ?_
    refine j_aload_n dX7_blasts_77 rfl ?_
    refine j_getr dX7_blasts_78 fl_X7_19 rfl (o_165 hr) (r_165_6 hr) ?_
    refine j_iload_n dX7_blasts_81 rfl ?_
    refine j_iald (k := k) dX7_blasts_82 (a_169 hr) rfl (by omega) ?_
    refine k_icmp_lt (tgt := 90) dX7_blasts_83 (by decide) (fun c83 c83' => ?_) (fun c83 c83' => ?_)
    · skip
      rw [rBl, if_pos c7, decide_eq_false c83', if_neg c83'] at zhb
      obtain ⟨za, zq, ze⟩ := Option.map_eq_some_iff.mp zhb
      cases ze
      refine j_iconst (v := 0) dX7_blasts_90 (by decide) ?_
      refine j_istore_4 dX7_blasts_91 rfl ?_
      refine j_aload_n dX7_blasts_93 rfl ?_
      refine j_iload_n dX7_blasts_94 rfl ?_
      refine j_iload_n dX7_blasts_95 rfl ?_
      refine j_iload dX7_blasts_96 rfl ?_
      refine j_cV3v dX7_blasts_98 (r_falls (b := false) hr hrr hp hp5 hk zq) ml_X7_149 my_X7_falls mi_X7_falls (o_165 hr) rfl (by omega) (Nat.le_of_ble_eq_true rfl) (Nat.le_of_ble_eq_true rfl) ?_
      refine j_iload dX7_blasts_101 rfl ?_
      refine j_if_eq (tgt := 110) dX7_blasts_103 (by decide) (fun c103 => ?_) (fun c103 => ?_)
      · skip
        refine j_iconst (v := 2) dX7_blasts_110 (by decide) ?_
        exact j_iret dX7_blasts_111 hQ
      · skip
        exact absurd rfl c103
    · skip
      rw [rBl, if_pos c7, decide_eq_true c83', if_pos c83'] at zhb
      obtain ⟨za, zq, ze⟩ := Option.map_eq_some_iff.mp zhb
      cases ze
      refine j_iconst (v := 1) dX7_blasts_86 (by decide) ?_
      refine j_goto (tgt := 91) dX7_blasts_87 (by decide) ?_
      refine j_istore_4 dX7_blasts_91 rfl ?_
      refine j_aload_n dX7_blasts_93 rfl ?_
      refine j_iload_n dX7_blasts_94 rfl ?_
      refine j_iload_n dX7_blasts_95 rfl ?_
      refine j_iload dX7_blasts_96 rfl ?_
      refine j_cV3v dX7_blasts_98 (r_falls (b := true) hr hrr hp hp5 hk zq) ml_X7_149 my_X7_falls mi_X7_falls (o_165 hr) rfl (by omega) (Nat.le_of_ble_eq_true rfl) (Nat.le_of_ble_eq_true rfl) ?_
      refine j_iload dX7_blasts_101 rfl ?_
      refine j_if_eq (tgt := 110) dX7_blasts_103 (by decide) (fun c103 => ?_) (fun c103 => ?_)
      · skip
        exact absurd c103 (by decide)
      · skip
        refine j_iconst (v := 1) dX7_blasts_106 (by decide) ?_
        refine j_goto (tgt := 111) dX7_blasts_107 (by decide) ?_
        exact j_iret dX7_blasts_111 hQ
  · skip
    refine j_aload_n dX7_blasts_10 rfl ?_
    refine j_getr dX7_blasts_11 fl_X7_7 rfl (o_165 hr) (r_165_0 hr) ?_
    refine j_iload_n dX7_blasts_14 rfl ?_
    refine j_iconst (v := 2) dX7_blasts_15 (by decide) ?_
    refine j_iadd dX7_blasts_16 ?_
    refine j_iload_n dX7_blasts_17 rfl ?_
    refine j_iadd dX7_blasts_18 ?_
    refine j_aload_n dX7_blasts_19 rfl ?_
    refine j_getr dX7_blasts_20 fl_X7_7 rfl (o_165 hr) (r_165_0 hr) ?_
    refine j_iload_n dX7_blasts_23 rfl ?_
    refine j_iconst (v := 2) dX7_blasts_24 (by decide) ?_
    refine j_iadd dX7_blasts_25 ?_
    refine j_iload_n dX7_blasts_26 rfl ?_
    refine j_iadd dX7_blasts_27 ?_
    refine j_iald (k := ((r + 2) + k)) dX7_blasts_28 (a_166 hr) (by simp only [jl2, nI_add, pk_mul]) (by omega) ?_
    refine j_iload_n dX7_blasts_29 rfl ?_
    refine j_isub dX7_blasts_30 ?_
    refine j_iconst (v := 1) dX7_blasts_31 (by decide) ?_
    refine k_icmp_ge (tgt := 39) dX7_blasts_32 (by decide) (fun c32 c32' => ?_) (fun c32 c32' => ?_)
    · skip
      refine j_aload_n dX7_blasts_39 rfl ?_
      refine j_getr dX7_blasts_40 fl_X7_7 rfl (o_165 hr) (r_165_0 hr) ?_
      refine j_iload_n dX7_blasts_43 rfl ?_
      refine j_iconst (v := 2) dX7_blasts_44 (by decide) ?_
      refine j_iadd dX7_blasts_45 ?_
      refine j_iload_n dX7_blasts_46 rfl ?_
      refine j_iadd dX7_blasts_47 ?_
      refine j_iald (k := ((r + 2) + k)) dX7_blasts_48 (a_166 hr) (by simp only [jl2, nI_add, pk_mul]) (by omega) ?_
      refine j_iload_n dX7_blasts_49 rfl ?_
      refine j_isub dX7_blasts_50 ?_
      refine j_iast (k := ((r + 2) + k)) dX7_blasts_51 (a_166 hr) (by simp only [jl2, nI_add, pk_mul]) (by omega) ?_
      refine j_aload_n dX7_blasts_52 rfl ?_
      refine j_getr dX7_blasts_53 fl_X7_7 rfl (o_165 hr) (r_165_0 hr) ?_
      refine j_iload_n dX7_blasts_56 rfl ?_
      refine j_bipush (v := 12) dX7_blasts_57 (by decide) ?_
      refine j_iadd dX7_blasts_59 ?_
      refine j_iload_n dX7_blasts_60 rfl ?_
      refine j_iadd dX7_blasts_61 ?_
      refine j_iconst (v := 0) dX7_blasts_62 (by decide) ?_
      refine j_iast (k := ((r + 12) + k)) dX7_blasts_63 (a_166 hr) (by simp only [jl12, nI_add, pk_mul]) (by omega) ?_
      refine j_iconst (v := 0) dX7_blasts_64 (by decide) ?_
      (rw [rBl, if_neg (by rw [c7]; decide)] at zhb; cases zhb; exact j_iret dX7_blasts_65 (by simpa only [c32, c32', reduceIte, Bool.false_eq_true, Bool.true_eq_false, and_self, and_true, true_and, and_false, false_and, not_true_eq_false, not_false_eq_true, ne_eq, decide_true, decide_false, if_true, if_false, Bool.not_eq_true, Bool.not_eq_false] using hQ))
    · skip
      refine j_iconst (v := 1) dX7_blasts_35 (by decide) ?_
      refine j_goto (tgt := 51) dX7_blasts_36 (by decide) ?_
      refine j_iast (k := ((r + 2) + k)) dX7_blasts_51 (a_166 hr) (by simp only [jl2, nI_add, pk_mul]) (by omega) ?_
      refine j_aload_n dX7_blasts_52 rfl ?_
      refine j_getr dX7_blasts_53 fl_X7_7 rfl (o_165 hr) (r_165_0 hr) ?_
      refine j_iload_n dX7_blasts_56 rfl ?_
      refine j_bipush (v := 12) dX7_blasts_57 (by decide) ?_
      refine j_iadd dX7_blasts_59 ?_
      refine j_iload_n dX7_blasts_60 rfl ?_
      refine j_iadd dX7_blasts_61 ?_
      refine j_iconst (v := 0) dX7_blasts_62 (by decide) ?_
      refine j_iast (k := ((r + 12) + k)) dX7_blasts_63 (a_166 hr) (by simp only [jl12, nI_add, pk_mul]) (by omega) ?_
      refine j_iconst (v := 0) dX7_blasts_64 (by decide) ?_
      (rw [rBl, if_neg (by rw [c7]; decide)] at zhb; cases zhb; exact j_iret dX7_blasts_65 (by simpa only [c32, c32', reduceIte, Bool.false_eq_true, Bool.true_eq_false, and_self, and_true, true_and, and_false, false_and, not_true_eq_false, not_false_eq_true, ne_eq, decide_true, decide_false, if_true, if_false, Bool.not_eq_true, Bool.not_eq_false] using hQ))

def rShF : Nat → jMem → jMem := fun i m => jup m 166 (208 + i) (m 166 (208 + i + 52))
def rMn1 (m : jMem) (u : Nat) : jMem := if u = 8 then jup (it rShF 364 0 m) 165 1 (nI 7) else m
def rMd (m : jMem) (q : Nat) : jMem := jup (rCopy m 0 (208 + 52 * q)) 165 1 (nI (q + 1))
def rMinds (m : jMem) (u : Nat) : jMem := rMd (rMn1 m u) (if u = 8 then 7 else u)
theorem rShF_lo (i : Nat) (m : jMem) {x y : Nat} (h : x ≠ 166) : rShF i m x y = m x y := jup_oth h
theorem rCopy_lo (m : jMem) (a b : Nat) {x y : Nat} (h : x ≠ 166) : rCopy m a b x y = m x y := it_lo (fun i m => jup_oth h) _ _ _
theorem rMinds_lo (m : jMem) (u : Nat) {x y : Nat} (h : x ≠ 166) (h2 : x ≠ 165 ∨ y ≠ 1) : rMinds m u x y = m x y := by
  have j1 : ∀ (a : jMem) (v : Int32), jup a 165 1 v x y = a x y := fun a v => by
    rcases h2 with z | z
    · exact jup_oth z
    · exact jup_oth2 z
  unfold rMinds rMd rMn1
  rw [j1, rCopy_lo _ _ _ h]
  split
  · rw [j1, it_lo (fun i m => rShF_lo i m h)]
  · rfl
theorem rMinds_1 (m : jMem) (u : Nat) : rMinds m u 165 1 = nI ((if u = 8 then 7 else u) + 1) := by
  unfold rMinds rMd
  rw [jup_self]
set_option maxRecDepth 20000 in
theorem lr_minds {G : jG} {N : Nat} {κ : Nat → jK} {ρ : Nat → Nat → Option Nat} {ν : Nat → Nat → Int64} {Q : Option Value → jH → Prop} {d : Nat} {μ : jMem} (hr : shR N κ ρ) (K : J G RX7 cX7_minds 2 false d Q 0 0 (N, κ, ρ, (it (rShF) 364 0 μ), ν) 47 [some (.ref 165), some (.int (nI 364))] []) : J G RX7 cX7_minds 2 false d Q 0 0 (N, κ, ρ, μ, ν) 11 [some (.ref 165), some (.int (nI 0))] [] := by
  refine it_loop (f := rShF) (p := 364) (fun i s => J G RX7 cX7_minds 2 false d Q 0 0 (N, κ, ρ, s, ν) 11 [some (.ref 165), some (.int (nI i))] []) (fun s => J G RX7 cX7_minds 2 false d Q 0 0 (N, κ, ρ, s, ν) 47 [some (.ref 165), some (.int (nI 364))] []) (fun _ _ => True) ?_ ?_ (fun _ _ _ _ => trivial) 364 0 μ (by omega) trivial K
  · intro s hI K
    refine j_iload_n dX7_minds_11 rfl ?_
    refine j_sipush (v := 364) dX7_minds_12 (by decide) ?_
    refine k_icmp_ge (tgt := 47) dX7_minds_15 (by decide) (fun c15 c15' => ?_) (fun c15 c15' => ?_)
    · skip
      exact K
    · skip
      exact absurd (by decide) c15
  · intro i s hi hI K
    (try dsimp only at K)
    unfold rShF at K
    (try dsimp only at K)
    refine j_iload_n dX7_minds_11 rfl ?_
    refine j_sipush (v := 364) dX7_minds_12 (by decide) ?_
    refine k_icmp_ge (tgt := 47) dX7_minds_15 (by decide) (fun c15 c15' => ?_) (fun c15 c15' => ?_)
    · skip
      exact absurd c15 (by rw [show (364 : Int32) = nI 364 from rfl]; exact nI_ge hi (by decide))
    · skip
      refine j_aload_n dX7_minds_18 rfl ?_
      refine j_getr dX7_minds_19 fl_X7_7 rfl (o_165 hr) (r_165_0 hr) ?_
      refine j_sipush (v := 208) dX7_minds_22 (by decide) ?_
      refine j_iload_n dX7_minds_25 rfl ?_
      refine j_iadd dX7_minds_26 ?_
      refine j_topi (w := nI (208 + i)) (by simp only [show (208 : Int32) = nI 208 from rfl, nI_add]) ?_
      refine j_aload_n dX7_minds_27 rfl ?_
      refine j_getr dX7_minds_28 fl_X7_7 rfl (o_165 hr) (r_165_0 hr) ?_
      refine j_sipush (v := 208) dX7_minds_31 (by decide) ?_
      refine j_iload_n dX7_minds_34 rfl ?_
      refine j_iadd dX7_minds_35 ?_
      refine j_topi (w := nI (208 + i)) (by simp only [show (208 : Int32) = nI 208 from rfl, nI_add]) ?_
      refine j_bipush (v := 52) dX7_minds_36 (by decide) ?_
      refine j_iadd dX7_minds_38 ?_
      refine j_topi (w := nI (208 + i + 52)) (by simp only [show (208 : Int32) = nI 208 from rfl, show (52 : Int32) = nI 52 from rfl, nI_add]) ?_
      refine j_iald (k := (208 + i + 52)) dX7_minds_39 (a_166 hr) rfl (by omega) ?_
      refine j_iast (k := (208 + i)) dX7_minds_40 (a_166 hr) rfl (by omega) ?_
      refine j_iinc_1 (v := nI (i + 1)) dX7_minds_41 (nI_add _ _) rfl ?_
      refine j_goto (tgt := 11) dX7_minds_44 (by decide) ?_
      (try simp only [c15, c15', reduceIte, Bool.false_eq_true, Bool.true_eq_false, and_self, and_true, true_and, and_false, false_and, not_true_eq_false, not_false_eq_true, ne_eq, decide_true, decide_false, if_true, if_false, Bool.not_eq_true, Bool.not_eq_false] at K)
      exact K

set_option maxRecDepth 20000 in
theorem bd_minds {G : jG} {N : Nat} {κ : Nat → jK} {ρ : Nat → Nat → Option Nat} {ν : Nat → Nat → Int64} {Q : Option Value → jH → Prop} {d : Nat} (hd1 : 1 ≤ d) {q : Nat} {m : jMem} {x1 : Option Value} (hr : shR N κ ρ) (hq : m 165 1 = nI q) (hq7 : q ≤ 7) (hQ : Q none (N, κ, ρ, rMd m q, ν)) : J G RX7 cX7_minds 2 false d Q 0 0 (N, κ, ρ, m, ν) 57 [some (.ref 165), x1] [] := by
  refine j_aload_n dX7_minds_57 rfl ?_
  refine j_iconst (v := 0) dX7_minds_58 (by decide) ?_
  refine j_sipush (v := 208) dX7_minds_59 (by decide) ?_
  refine j_bipush (v := 52) dX7_minds_62 (by decide) ?_
  refine j_aload_n dX7_minds_64 rfl ?_
  refine j_geti dX7_minds_65 fl_X7_79 rfl (o_165 hr) ?_
  refine j_topi hq ?_
  refine j_imul dX7_minds_68 ?_
  refine j_topi (w := nI (52 * q)) (by rw [show (52 : Int32) = nI 52 from rfl, pk_mul]) ?_
  refine j_iadd dX7_minds_69 ?_
  refine j_topi (w := nI (208 + 52 * q)) (by rw [show (208 : Int32) = nI 208 from rfl, nI_add]) ?_
  refine j_cV2v dX7_minds_70 (r_copy (f := 0) (t := (208 + 52 * q)) hr (by omega) (by omega)) ml_X7_153 my_X7_copy mi_X7_copy (o_165 hr) rfl (by omega) (Nat.le_of_ble_eq_true rfl) (Nat.le_of_ble_eq_true rfl) ?_
  refine j_aload_n dX7_minds_73 rfl ?_
  refine j_dup dX7_minds_74 rfl ?_
  refine j_geti dX7_minds_75 fl_X7_79 rfl (o_165 hr) ?_
  refine j_iconst (v := 1) dX7_minds_78 (by decide) ?_
  refine j_iadd dX7_minds_79 ?_
  refine j_topi (w := nI (q + 1)) (by rw [rCopy_lo _ _ _ (by decide), hq, nI_1]) ?_
  refine j_puti dX7_minds_80 fl_X7_79 rfl (o_165 hr) ?_
  exact j_vret dX7_minds_83 hQ

theorem nI_inj8 {u : Nat} {x : Int32} (e : x = nI u) (h : x = 8) (hu : u ≤ 8) : u = 8 := Decidable.byContradiction fun z => nI_ne (a := u) (b := 8) z (by omega) (by omega) (by rw [← e, h]; rfl)
set_option maxRecDepth 20000 in
theorem r_minds {G : jG} {N : Nat} {κ : Nat → jK} {ρ : Nat → Nat → Option Nat} {μ : Nat → Nat → Int32} {ν : Nat → Nat → Int64} (hr : shR N κ ρ) {u : Nat} (hu : μ 165 1 = nI u) (hu8 : u ≤ 8) : MT G yX7_minds cX7_minds 2 none 1 0 0 [.ref 165] (N, κ, ρ, μ, ν) none (N, κ, ρ, rMinds μ u, ν) := by
  refine jMT (ini := false) my_X7_minds (fun h => by cases h) jRv_v (Nat.le_of_ble_eq_true rfl) ?_
  show J G RX7 cX7_minds 2 false 1 _ 0 0 (N, κ, ρ, μ, ν) 0 [some (.ref 165), none] []
  generalize hQe : (fun (v' : Option Value) (h'' : jH) => v' = none ∧ h'' = (N, κ, ρ, rMinds μ u, ν)) = Q
  have hQ : Q none (N, κ, ρ, rMinds μ u, ν) := by rw [← hQe]; exact ⟨rfl, rfl⟩
  clear hQe
  refine j_aload_n dX7_minds_0 rfl ?_
  refine j_geti dX7_minds_1 fl_X7_79 rfl (o_165 hr) ?_
  refine j_bipush (v := 8) dX7_minds_4 (by decide) ?_
  refine j_icmp_ne (tgt := 57) dX7_minds_6 (by decide) (fun c6 => ?_) (fun c6 => ?_)
  · skip
    have eu : ¬ u = 8 := fun z => c6 (by rw [hu, z]; rfl)
    exact bd_minds (q := u) (by omega) hr hu (by omega) (by simpa only [rMinds, rMn1, eu, reduceIte] using hQ)
  · skip
    have eu : u = 8 := nI_inj8 hu c6 hu8
    refine j_iconst (v := 0) dX7_minds_9 (by decide) ?_
    refine j_istore_1 dX7_minds_10 rfl ?_
    refine lr_minds hr ?_
    refine j_aload_n dX7_minds_47 rfl ?_
    refine j_dup dX7_minds_48 rfl ?_
    refine j_geti dX7_minds_49 fl_X7_79 rfl (o_165 hr) ?_
    refine j_iconst (v := 1) dX7_minds_52 (by decide) ?_
    refine j_isub dX7_minds_53 ?_
    refine j_topi (w := nI 7) (by rw [it_lo (fun i m => rShF_lo i m (by decide)), hu, eu]; rfl) ?_
    refine j_puti dX7_minds_54 fl_X7_79 rfl (o_165 hr) ?_
    exact bd_minds (q := 7) (by omega) hr (jup_self _ _ _ _) (by omega) (by simpa only [rMinds, rMn1, eu, reduceIte] using hQ)

