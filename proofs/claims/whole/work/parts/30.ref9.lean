/-! THE REFERENCE'S SEARCH FOR AN ORDER -/
def rBoP (m : jMem) (dp : Nat) (v ci : Int32) : jMem := jup (jup m 179 (dp + 1) (m 179 dp + if v ≤ 0 then 1000000 else ci)) 178 (dp + 1) (-1)
theorem rBoP_p (m : jMem) (dp : Nat) (v ci : Int32) : rBoP m dp v ci 165 3 = m 165 3 := by
  unfold rBoP
  rw [jup_oth (by decide), jup_oth (by decide)]
theorem rBoP_m (m : jMem) (dp : Nat) (v ci : Int32) : rBoP m dp v ci 178 (dp + 1) = -1 := by
  unfold rBoP
  rw [jup_self]
theorem rBoP_k (m : jMem) (dp : Nat) (v ci : Int32) : rBoP m dp v ci 178 dp = m 178 dp := by
  unfold rBoP
  rw [jup_oth2 (by omega), jup_oth (by decide)]
def rBoS (p : Nat) (g : Nat → Int32 × jMem → Option (Int32 × jMem)) (dp : Nat) (k : Nat) (s : Int32 × jMem) : Option (Int32 × jMem) :=
  if rSt s.2 (624 + 52 * dp) k = true ∧ ¬ rCi s.2 (624 + 52 * dp) k = -4 ∧ s.2 179 dp + rCi s.2 (624 + 52 * dp) k < s.1 then
    (rBl (rCopy (jup s.2 178 dp (nI k)) (624 + 52 * dp) (624 + 52 * dp + 52)) (624 + 52 * dp + 52) k (rCi (jup s.2 178 dp (nI k)) (624 + 52 * dp) k) p).bind (fun q => g (dp + 1) (s.1, rBoP q.2 dp q.1 (rCi (jup s.2 178 dp (nI k)) (624 + 52 * dp) k)))
  else some s
def rBoC : Nat → jMem → jMem := fun i m => jup m 180 i (m 178 i)
theorem rBoC_lo (i : Nat) (m : jMem) {x y : Nat} (h : x ≠ 180) : rBoC i m x y = m x y := jup_oth h
def rBoL (m : jMem) (dp : Nat) : jMem := it rBoC dp 0 (jup m 165 24 (nI dp))
def rBoF (p : Nat) : Nat → Nat → Int32 × jMem → Option (Int32 × jMem)
  | 0, _, _ => none
  | f + 1, dp, s => if rOnes (rDo s.2 (624 + 52 * dp) p) = nI p then some (if s.2 179 dp < s.1 then (s.2 179 dp, rBoL s.2 dp) else s)
    else (itO (rBoS p (rBoF p f) dp) p 0 s).map (fun t => (t.1, jup t.2 178 dp (nI p)))
def rBo (m : jMem) (p : Nat) : Option (Int32 × jMem) := rBoF p 11 0 (1000000, jup (jup (rCopy (jup m 165 24 0) 0 624) 178 0 (-1)) 179 0 0)
theorem rBl_lo {m : jMem} {r k p : Nat} {n v : Int32} {m' : jMem} {x y : Nat} (h : x ≠ 166) (h6 : x ≠ 176) (h7 : x ≠ 177) (e : rBl m r k n p = some (v, m')) : m' x y = m x y := by
  unfold rBl at e
  split at e
  · obtain ⟨a, ha, q⟩ := Option.map_eq_some_iff.mp e
    cases q
    exact rFl_lo h _ _ _ _ _ _ (Or.inl ⟨h6, h7⟩) ha
  · cases e
    rw [jup_oth h, jup_oth h]
theorem rBoF_lo {p x y : Nat} (h : x ≠ 166) (h6 : x ≠ 176) (h7 : x ≠ 177) (h8 : x ≠ 180) (h5 : x ≠ 165 ∨ y ≠ 24) : ∀ (f dp : Nat) (s s' : Int32 × jMem), ((x ≠ 178 ∧ x ≠ 179) ∨ y < dp) → rBoF p f dp s = some s' → s'.2 x y = s.2 x y
  | 0, _, _, _, _, e => by rw [rBoF] at e; cases e
  | f + 1, dp, s, s', hy, e => by
    have j1 : ∀ (a : jMem) (v : Int32), jup a 178 dp v x y = a x y := fun a v => by
      rcases hy with z | z
      · exact jup_oth z.1
      · exact jup_oth2 (by omega)
    have j2 : ∀ (a : jMem) (v : Int32), jup a 178 (dp + 1) v x y = a x y := fun a v => by
      rcases hy with z | z
      · exact jup_oth z.1
      · exact jup_oth2 (by omega)
    have j3 : ∀ (a : jMem) (v : Int32), jup a 179 (dp + 1) v x y = a x y := fun a v => by
      rcases hy with z | z
      · exact jup_oth z.2
      · exact jup_oth2 (by omega)
    have j4 : ∀ (a : jMem) (v : Int32), jup a 165 24 v x y = a x y := fun a v => by
      rcases h5 with z | z
      · exact jup_oth z
      · exact jup_oth2 z
    rw [rBoF] at e
    split at e
    · cases e
      split
      · show rBoL s.2 dp x y = _
        rw [rBoL, it_lo (fun i m => rBoC_lo i m h8), j4]
      · rfl
    · obtain ⟨t, ht, q⟩ := Option.map_eq_some_iff.mp e
      cases q
      show jup t.2 178 dp _ x y = _
      rw [j1]
      have gen : ∀ (n k : Nat) (s t : Int32 × jMem), itO (rBoS p (rBoF p f) dp) n k s = some t → t.2 x y = s.2 x y := by
        intro n
        induction n with
        | zero => intro k s t e; rw [itO] at e; cases e; rfl
        | succ n ih =>
          intro k s t e
          rw [itO] at e
          cases zq : rBoS p (rBoF p f) dp k s with
          | none => rw [zq] at e; cases e
          | some a =>
            rw [zq] at e
            rw [ih (k + 1) a t e]
            unfold rBoS at zq
            split at zq
            · obtain ⟨⟨v, b⟩, hb, hc⟩ := Option.bind_eq_some_iff.mp zq
              rw [rBoF_lo h h6 h7 h8 h5 f (dp + 1) _ a (by omega) hc]
              show rBoP b dp v _ x y = _
              rw [rBoP, j2, j3, rBl_lo h h6 h7 hb, rCopy_lo _ _ _ h, j1]
            · cases zq; rfl
      exact gen p 0 s t ht
set_option maxRecDepth 20000 in
theorem lr_boc {G : jG} {N : Nat} {κ : Nat → jK} {ρ : Nat → Nat → Option Nat} {ν : Nat → Nat → Int64} {Q : Option Value → jH → Prop} {d : Nat} {dp : Nat} {b x3 : Int32} {x5 x6 : Option Value} {μ : jMem} (hr : shR N κ ρ) (hdp : dp ≤ 10) (K : J G RX7 cX7_bestOrder 7 false d Q 0 0 (N, κ, ρ, (it (rBoC) dp 0 μ), ν) 120 [some (.ref 165), some (.int b), some (.int (nI dp)), (some (.int x3)), some (.int (nI dp)), x5, x6] []) : J G RX7 cX7_bestOrder 7 false d Q 0 0 (N, κ, ρ, μ, ν) 94 [some (.ref 165), some (.int b), some (.int (nI dp)), (some (.int x3)), some (.int (nI 0)), x5, x6] [] := by
  refine it_loop (f := rBoC) (p := dp) (fun i s => J G RX7 cX7_bestOrder 7 false d Q 0 0 (N, κ, ρ, s, ν) 94 [some (.ref 165), some (.int b), some (.int (nI dp)), (some (.int x3)), some (.int (nI i)), x5, x6] []) (fun s => J G RX7 cX7_bestOrder 7 false d Q 0 0 (N, κ, ρ, s, ν) 120 [some (.ref 165), some (.int b), some (.int (nI dp)), (some (.int x3)), some (.int (nI dp)), x5, x6] []) (fun _ _ => True) ?_ ?_ (fun _ _ _ _ => trivial) dp 0 μ (by omega) trivial K
  · intro s hI K
    refine j_iload dX7_bestOrder_94 rfl ?_
    refine j_iload_n dX7_bestOrder_96 rfl ?_
    refine k_icmp_ge (tgt := 120) dX7_bestOrder_97 (by decide) (fun c97 c97' => ?_) (fun c97 c97' => ?_)
    · skip
      exact K
    · skip
      exact absurd (Int32.le_refl _) c97
  · intro i s hi hI K
    (try dsimp only at K)
    unfold rBoC at K
    (try dsimp only at K)
    refine j_iload dX7_bestOrder_94 rfl ?_
    refine j_iload_n dX7_bestOrder_96 rfl ?_
    refine k_icmp_ge (tgt := 120) dX7_bestOrder_97 (by decide) (fun c97 c97' => ?_) (fun c97 c97' => ?_)
    · skip
      exact absurd c97 (nI_ge (by omega) (by omega))
    · skip
      refine j_aload_n dX7_bestOrder_100 rfl ?_
      refine j_getr dX7_bestOrder_101 fl_X7_52 rfl (o_165 hr) (r_165_23 hr) ?_
      refine j_iload dX7_bestOrder_104 rfl ?_
      refine j_aload_n dX7_bestOrder_106 rfl ?_
      refine j_getr dX7_bestOrder_107 fl_X7_46 rfl (o_165 hr) (r_165_21 hr) ?_
      refine j_iload dX7_bestOrder_110 rfl ?_
      refine j_iald (k := i) dX7_bestOrder_112 (a_178 hr) rfl (by omega) ?_
      refine j_iast (k := i) dX7_bestOrder_113 (a_180 hr) rfl (by omega) ?_
      refine j_iinc_4 (v := nI (i + 1)) dX7_bestOrder_114 (nI_add _ _) rfl ?_
      refine j_goto (tgt := 94) dX7_bestOrder_117 (by decide) ?_
      (try simp only [c97, c97', reduceIte, Bool.false_eq_true, Bool.true_eq_false, and_self, and_true, true_and, and_false, false_and, not_true_eq_false, not_false_eq_true, ne_eq, decide_true, decide_false, if_true, if_false, Bool.not_eq_true, Bool.not_eq_false] at K)
      exact K

theorem nI_nneg (n : Nat) (hn : n < 2 ^ 31 := by omega) : ¬ nI n < 0 := by
  rw [Int32.lt_iff_toInt_lt, nI_toInt hn]
  have : (0 : Int32).toInt = 0 := by decide
  omega
set_option maxRecDepth 20000 in
theorem lr_boA {G : jG} {N : Nat} {κ : Nat → jK} {ρ : Nat → Nat → Option Nat} {ν : Nat → Nat → Int64} {Q : Option Value → jH → Prop} {d : Nat} (hd1 : 5 ≤ d) {p : Nat} (hr : shR N κ ρ) (hp5 : p ≤ 5) (f : Nat) (hB : ∀ (n k dp : Nat) (dq : Int32) (s s' : Int32 × jMem) (x5 x6 : Option Value), n + k = p → dp + f ≤ 10 → nI dp + Int32.ofInt (-1) = dq → s.2 165 3 = nI p → itO (rBoS p (rBoF p f) dp) n k s = some s' → (∀ x3 x4 x5 x6, J G RX7 cX7_bestOrder 7 false d Q 0 0 (N, κ, ρ, jup s'.2 178 dp (nI p), ν) 32 [some (.ref 165), some (.int s'.1), some (.int dq), x3, x4, x5, x6] []) → J G RX7 cX7_bestOrder 7 false d Q 0 0 (N, κ, ρ, s.2, ν) 136 [some (.ref 165), some (.int s.1), some (.int (nI dp)), some (.int (nI (624 + 52 * dp))), some (.int (nI k)), x5, x6] []) (dp : Nat) (dq : Int32) (s s' : Int32 × jMem) (x3 x4 x5 x6 : Option Value) (hdf : dp + f ≤ 10) (hdq : nI dp + Int32.ofInt (-1) = dq) (hp : s.2 165 3 = nI p) (hm : s.2 178 dp = -1) (zhb : rBoF p (f + 1) dp s = some s') (K : (∀ x3 x4 x5 x6, J G RX7 cX7_bestOrder 7 false d Q 0 0 (N, κ, ρ, s'.2, ν) 32 [some (.ref 165), some (.int s'.1), some (.int dq), x3, x4, x5, x6] [])) : J G RX7 cX7_bestOrder 7 false d Q 0 0 (N, κ, ρ, s.2, ν) 32 [some (.ref 165), some (.int s.1), some (.int (nI dp)), x3, x4, x5, x6] [] := by
  rw [rBoF] at zhb
  refine j_iload_n dX7_bestOrder_32 rfl ?_
  refine k_if_lt (tgt := 286) dX7_bestOrder_33 (by decide) (fun c33 c33' => ?_) (fun c33 c33' => ?_)
  · skip
    exact absurd c33 (nI_nneg _)
  · skip
    refine j_sipush (v := 624) dX7_bestOrder_36 (by decide) ?_
    refine j_bipush (v := 52) dX7_bestOrder_39 (by decide) ?_
    refine j_iload_n dX7_bestOrder_41 rfl ?_
    refine j_imul dX7_bestOrder_42 ?_
    refine j_iadd dX7_bestOrder_43 ?_
    refine j_topi (w := nI (624 + 52 * dp)) (by simp only [show (624 : Int32) = nI 624 from rfl, show (52 : Int32) = nI 52 from rfl, pk_mul, nI_add]) ?_
    refine j_istore_3 dX7_bestOrder_44 rfl ?_
    refine j_aload_n dX7_bestOrder_45 rfl ?_
    refine j_getr dX7_bestOrder_46 fl_X7_46 rfl (o_165 hr) (r_165_21 hr) ?_
    refine j_iload_n dX7_bestOrder_49 rfl ?_
    refine j_iald (k := dp) dX7_bestOrder_50 (a_178 hr) rfl (by omega) ?_
    refine j_topi hm ?_
    refine k_if_ge (tgt := 126) dX7_bestOrder_51 (by decide) (fun c51 c51' => ?_) (fun c51 c51' => ?_)
    · skip
      exact absurd c51 (by decide)
    · skip
      refine j_aload_n dX7_bestOrder_54 rfl ?_
      refine j_iload_n dX7_bestOrder_55 rfl ?_
      refine j_cV1r dX7_bestOrder_56 (r_do (r := 624 + 52 * dp) hr (by omega) hp hp5) ml_X7_186 my_X7_downOnes mi_X7_downOnes (o_165 hr) rfl (by omega) (Nat.le_of_ble_eq_true rfl) (Nat.le_of_ble_eq_true rfl) ?_
      refine j_cS1r dX7_bestOrder_59 r_ones ml_X7_189 my_X7_ones ms_X7_ones (by omega) (Nat.le_of_ble_eq_true rfl) (Nat.le_of_ble_eq_true rfl) ?_
      refine j_aload_n dX7_bestOrder_62 rfl ?_
      refine j_geti dX7_bestOrder_63 fl_X7_69 rfl (o_165 hr) ?_
      refine j_icmp_ne (tgt := 126) dX7_bestOrder_66 (by decide) (fun c66 => ?_) (fun c66 => ?_)
      · skip
        rw [if_neg (fun z => c66 (z.trans hp.symm))] at zhb
        refine j_aload_n dX7_bestOrder_126 rfl ?_
        refine j_getr dX7_bestOrder_127 fl_X7_46 rfl (o_165 hr) (r_165_21 hr) ?_
        refine j_iload_n dX7_bestOrder_130 rfl ?_
        refine j_iald (k := dp) dX7_bestOrder_131 (a_178 hr) rfl (by omega) ?_
        refine j_topi hm ?_
        refine j_iconst (v := 1) dX7_bestOrder_132 (by decide) ?_
        refine j_iadd dX7_bestOrder_133 ?_
        refine j_topi (w := nI 0) (by decide) ?_
        refine j_istore_4 dX7_bestOrder_134 rfl ?_
        obtain ⟨zt, zq, ze⟩ := Option.map_eq_some_iff.mp zhb
        cases ze
        exact hB p 0 dp _ s zt _ _ (by omega) hdf hdq hp zq K
      · skip
        rw [if_pos (c66.trans hp)] at zhb
        refine j_aload_n dX7_bestOrder_69 rfl ?_
        refine j_getr dX7_bestOrder_70 fl_X7_49 rfl (o_165 hr) (r_165_22 hr) ?_
        refine j_iload_n dX7_bestOrder_73 rfl ?_
        refine j_iald (k := dp) dX7_bestOrder_74 (a_179 hr) rfl (by omega) ?_
        refine j_iload_n dX7_bestOrder_75 rfl ?_
        refine k_icmp_ge (tgt := 120) dX7_bestOrder_76 (by decide) (fun c76 c76' => ?_) (fun c76 c76' => ?_)
        · skip
          rw [if_neg c76'] at zhb
          cases zhb
          refine j_iinc_2 (v := dq) dX7_bestOrder_120 hdq rfl ?_
          refine j_goto (tgt := 283) dX7_bestOrder_123 (by decide) ?_
          refine j_goto (tgt := 32) dX7_bestOrder_283 (by decide) ?_
          exact K _ _ _ _
        · skip
          rw [if_pos c76'] at zhb
          cases zhb
          refine j_aload_n dX7_bestOrder_79 rfl ?_
          refine j_getr dX7_bestOrder_80 fl_X7_49 rfl (o_165 hr) (r_165_22 hr) ?_
          refine j_iload_n dX7_bestOrder_83 rfl ?_
          refine j_iald (k := dp) dX7_bestOrder_84 (a_179 hr) rfl (by omega) ?_
          refine j_istore_1 dX7_bestOrder_85 rfl ?_
          refine j_aload_n dX7_bestOrder_86 rfl ?_
          refine j_iload_n dX7_bestOrder_87 rfl ?_
          refine j_puti dX7_bestOrder_88 fl_X7_193 rfl (o_165 hr) ?_
          refine j_iconst (v := 0) dX7_bestOrder_91 (by decide) ?_
          refine j_istore_4 dX7_bestOrder_92 rfl ?_
          refine lr_boc hr (by omega) ?_
          refine j_iinc_2 (v := dq) dX7_bestOrder_120 hdq rfl ?_
          refine j_goto (tgt := 283) dX7_bestOrder_123 (by decide) ?_
          refine j_goto (tgt := 32) dX7_bestOrder_283 (by decide) ?_
          exact K _ _ _ _

theorem nI_ge0 (n : Nat) (hn : n < 2 ^ 31 := by omega) : (0 : Int32) ≤ nI n := by
  rw [Int32.le_iff_toInt_le, nI_toInt hn]
  have : (0 : Int32).toInt = 0 := by decide
  omega
set_option maxRecDepth 20000 in
theorem lr_boB {G : jG} {N : Nat} {κ : Nat → jK} {ρ : Nat → Nat → Option Nat} {ν : Nat → Nat → Int64} {Q : Option Value → jH → Prop} {d : Nat} (hd1 : 5 ≤ d) {p : Nat} (hr : shR N κ ρ) (hp5 : p ≤ 5) (f : Nat) : ∀ (n k dp : Nat) (dq : Int32) (s s' : Int32 × jMem) (x5 x6 : Option Value), n + k = p → dp + f ≤ 10 → nI dp + Int32.ofInt (-1) = dq → s.2 165 3 = nI p → itO (rBoS p (rBoF p f) dp) n k s = some s' → (∀ x3 x4 x5 x6, J G RX7 cX7_bestOrder 7 false d Q 0 0 (N, κ, ρ, jup s'.2 178 dp (nI p), ν) 32 [some (.ref 165), some (.int s'.1), some (.int dq), x3, x4, x5, x6] []) → J G RX7 cX7_bestOrder 7 false d Q 0 0 (N, κ, ρ, s.2, ν) 136 [some (.ref 165), some (.int s.1), some (.int (nI dp)), some (.int (nI (624 + 52 * dp))), some (.int (nI k)), x5, x6] [] := by
  induction f using Nat.strongRecOn with
  | _ f ihf =>
  intro n
  induction n with
  | zero =>
    intro k dp dq s s' x5 x6 hn hdf hdq hp zhb K
    rw [itO] at zhb
    cases zhb
    obtain rfl : k = p := by omega
    refine j_iload dX7_bestOrder_136 rfl ?_
    refine j_aload_n dX7_bestOrder_138 rfl ?_
    refine j_geti dX7_bestOrder_139 fl_X7_69 rfl (o_165 hr) ?_
    refine k_icmp_ge (tgt := 191) dX7_bestOrder_142 (by decide) (fun c142 c142' => ?_) (fun c142 c142' => ?_)
    · skip
      refine j_aload_n dX7_bestOrder_191 rfl ?_
      refine j_getr dX7_bestOrder_192 fl_X7_46 rfl (o_165 hr) (r_165_21 hr) ?_
      refine j_iload_n dX7_bestOrder_195 rfl ?_
      refine j_iload dX7_bestOrder_196 rfl ?_
      refine j_iast (k := dp) dX7_bestOrder_198 (a_178 hr) rfl (by omega) ?_
      refine j_iload dX7_bestOrder_199 rfl ?_
      refine j_aload_n dX7_bestOrder_201 rfl ?_
      refine j_geti dX7_bestOrder_202 fl_X7_69 rfl (o_165 hr) ?_
      refine j_icmp_ne (tgt := 214) dX7_bestOrder_205 (by decide) (fun c205 => ?_) (fun c205 => ?_)
      · skip
        exact absurd (by rw [jup_oth (by decide), hp]) c205
      · skip
        refine j_iinc_2 (v := dq) dX7_bestOrder_208 hdq rfl ?_
        refine j_goto (tgt := 283) dX7_bestOrder_211 (by decide) ?_
        refine j_goto (tgt := 32) dX7_bestOrder_283 (by decide) ?_
        exact K _ _ _ _
    · skip
      exact absurd (by rw [hp]; exact Int32.le_refl _) c142
  | succ n ihn =>
    intro k dp dq s s' x5 x6 hn hdf hdq hp zhb K
    rw [itO, rBoS] at zhb
    have hp1 : jup s.2 178 dp (nI k) 165 3 = nI p := by rw [jup_oth (by decide)]; exact hp
    refine j_iload dX7_bestOrder_136 rfl ?_
    refine j_aload_n dX7_bestOrder_138 rfl ?_
    refine j_geti dX7_bestOrder_139 fl_X7_69 rfl (o_165 hr) ?_
    refine k_icmp_ge (tgt := 191) dX7_bestOrder_142 (by decide) (fun c142 c142' => ?_) (fun c142 c142' => ?_)
    · skip
      exact absurd c142 (by rw [hp]; exact nI_ge (by omega) (by omega))
    · skip
      refine j_aload_n dX7_bestOrder_145 rfl ?_
      refine j_iload_n dX7_bestOrder_146 rfl ?_
      refine j_iload dX7_bestOrder_147 rfl ?_
      refine j_cV2r dX7_bestOrder_149 (r_stands (r := (624 + 52 * dp)) (k := k) hr (by omega) (by omega)) ml_X7_138 my_X7_stands mi_X7_stands (o_165 hr) rfl (by omega) (Nat.le_of_ble_eq_true rfl) (Nat.le_of_ble_eq_true rfl) ?_
      refine j_if_eqB (tgt := 185) dX7_bestOrder_152 (by decide) (fun c152 => ?_) (fun c152 => ?_)
      · skip
        refine j_iinc_4 (v := nI (k + 1)) dX7_bestOrder_185 (nI_add _ _) rfl ?_
        refine j_goto (tgt := 136) dX7_bestOrder_188 (by decide) ?_
        rw [if_neg (fun z => by rw [z.1] at c152; cases c152)] at zhb
        exact ihn (k + 1) dp dq s s' _ _ (by omega) hdf hdq hp zhb K
      · skip
        refine j_aload_n dX7_bestOrder_155 rfl ?_
        refine j_iload_n dX7_bestOrder_156 rfl ?_
        refine j_iload dX7_bestOrder_157 rfl ?_
        refine j_cV2r dX7_bestOrder_159 (r_ci (r := (624 + 52 * dp)) (k := k) hr (by omega) (by omega)) ml_X7_179 my_X7_callsIn mi_X7_callsIn (o_165 hr) rfl (by omega) (Nat.le_of_ble_eq_true rfl) (Nat.le_of_ble_eq_true rfl) ?_
        refine j_bipush (v := (-4)) dX7_bestOrder_162 (by decide) ?_
        refine j_icmp_eq (tgt := 185) dX7_bestOrder_164 (by decide) (fun c164 => ?_) (fun c164 => ?_)
        · skip
          refine j_iinc_4 (v := nI (k + 1)) dX7_bestOrder_185 (nI_add _ _) rfl ?_
          refine j_goto (tgt := 136) dX7_bestOrder_188 (by decide) ?_
          rw [if_neg (fun z => z.2.1 c164)] at zhb
          exact ihn (k + 1) dp dq s s' _ _ (by omega) hdf hdq hp zhb K
        · skip
          refine j_aload_n dX7_bestOrder_167 rfl ?_
          refine j_getr dX7_bestOrder_168 fl_X7_49 rfl (o_165 hr) (r_165_22 hr) ?_
          refine j_iload_n dX7_bestOrder_171 rfl ?_
          refine j_iald (k := dp) dX7_bestOrder_172 (a_179 hr) rfl (by omega) ?_
          refine j_aload_n dX7_bestOrder_173 rfl ?_
          refine j_iload_n dX7_bestOrder_174 rfl ?_
          refine j_iload dX7_bestOrder_175 rfl ?_
          refine j_cV2r dX7_bestOrder_177 (r_ci (r := (624 + 52 * dp)) (k := k) hr (by omega) (by omega)) ml_X7_179 my_X7_callsIn mi_X7_callsIn (o_165 hr) rfl (by omega) (Nat.le_of_ble_eq_true rfl) (Nat.le_of_ble_eq_true rfl) ?_
          refine j_iadd dX7_bestOrder_180 ?_
          refine j_iload_n dX7_bestOrder_181 rfl ?_
          refine k_icmp_lt (tgt := 191) dX7_bestOrder_182 (by decide) (fun c182 c182' => ?_) (fun c182 c182' => ?_)
          · skip
            rw [if_pos ⟨c152, c164, c182⟩] at zhb
            obtain ⟨za, zs, zhb⟩ := Option.bind_eq_some_iff.mp zhb
            obtain ⟨⟨zv, zb⟩, zc, zg⟩ := Option.bind_eq_some_iff.mp zs
            dsimp only at zg
            have hpb : zb 165 3 = nI p := (rBl_lo (by decide) (by decide) (by decide) zc).trans ((rCopy_lo _ _ _ (by decide)).trans hp1)
            have hkb : zb 178 dp = nI k := (rBl_lo (by decide) (by decide) (by decide) zc).trans ((rCopy_lo _ _ _ (by decide)).trans (jup_self _ _ _ _))
            obtain ⟨f, rfl⟩ : ∃ g, f = g + 1 := by cases f with | zero => (rw [rBoF] at zg; cases zg) | succ g => exact ⟨g, rfl⟩
            refine j_aload_n dX7_bestOrder_191 rfl ?_
            refine j_getr dX7_bestOrder_192 fl_X7_46 rfl (o_165 hr) (r_165_21 hr) ?_
            refine j_iload_n dX7_bestOrder_195 rfl ?_
            refine j_iload dX7_bestOrder_196 rfl ?_
            refine j_iast (k := dp) dX7_bestOrder_198 (a_178 hr) rfl (by omega) ?_
            refine j_iload dX7_bestOrder_199 rfl ?_
            refine j_aload_n dX7_bestOrder_201 rfl ?_
            refine j_geti dX7_bestOrder_202 fl_X7_69 rfl (o_165 hr) ?_
            refine j_icmp_ne (tgt := 214) dX7_bestOrder_205 (by decide) (fun c205 => ?_) (fun c205 => ?_)
            · skip
              refine j_aload_n dX7_bestOrder_214 rfl ?_
              refine j_iload_n dX7_bestOrder_215 rfl ?_
              refine j_iload dX7_bestOrder_216 rfl ?_
              refine j_cV2r dX7_bestOrder_218 (r_ci (r := (624 + 52 * dp)) (k := k) hr (by omega) (by omega)) ml_X7_179 my_X7_callsIn mi_X7_callsIn (o_165 hr) rfl (by omega) (Nat.le_of_ble_eq_true rfl) (Nat.le_of_ble_eq_true rfl) ?_
              refine j_istore_5 dX7_bestOrder_221 rfl ?_
              refine j_aload_n dX7_bestOrder_223 rfl ?_
              refine j_iload_n dX7_bestOrder_224 rfl ?_
              refine j_iload_n dX7_bestOrder_225 rfl ?_
              refine j_bipush (v := 52) dX7_bestOrder_226 (by decide) ?_
              refine j_iadd dX7_bestOrder_228 ?_
              refine j_topi (w := nI (624 + 52 * dp + 52)) (by simp only [show (52 : Int32) = nI 52 from rfl, nI_add]) ?_
              refine j_cV2v dX7_bestOrder_229 (r_copy (f := (624 + 52 * dp)) (t := (624 + 52 * dp + 52)) hr (by omega) (by omega)) ml_X7_153 my_X7_copy mi_X7_copy (o_165 hr) rfl (by omega) (Nat.le_of_ble_eq_true rfl) (Nat.le_of_ble_eq_true rfl) ?_
              refine j_aload_n dX7_bestOrder_232 rfl ?_
              refine j_iload_n dX7_bestOrder_233 rfl ?_
              refine j_bipush (v := 52) dX7_bestOrder_234 (by decide) ?_
              refine j_iadd dX7_bestOrder_236 ?_
              refine j_topi (w := nI (624 + 52 * dp + 52)) (by simp only [show (52 : Int32) = nI 52 from rfl, nI_add]) ?_
              refine j_iload dX7_bestOrder_237 rfl ?_
              refine j_iload dX7_bestOrder_239 rfl ?_
              refine j_cV3r dX7_bestOrder_241 (r_blasts hr (by omega) ((rCopy_lo _ _ _ (by decide)).trans hp1) hp5 (by omega) zc) ml_X7_165 my_X7_blasts mi_X7_blasts (o_165 hr) rfl (by omega) (Nat.le_of_ble_eq_true rfl) (Nat.le_of_ble_eq_true rfl) ?_
              refine j_istore_6 dX7_bestOrder_244 rfl ?_
              refine j_aload_n dX7_bestOrder_246 rfl ?_
              refine j_getr dX7_bestOrder_247 fl_X7_49 rfl (o_165 hr) (r_165_22 hr) ?_
              refine j_iload_n dX7_bestOrder_250 rfl ?_
              refine j_iconst (v := 1) dX7_bestOrder_251 (by decide) ?_
              refine j_iadd dX7_bestOrder_252 ?_
              refine j_topi (nI_1 dp) ?_
              refine j_aload_n dX7_bestOrder_253 rfl ?_
              refine j_getr dX7_bestOrder_254 fl_X7_49 rfl (o_165 hr) (r_165_22 hr) ?_
              refine j_iload_n dX7_bestOrder_257 rfl ?_
              refine j_iald (k := dp) dX7_bestOrder_258 (a_179 hr) rfl (by omega) ?_
              refine j_iload dX7_bestOrder_259 rfl ?_
              refine k_if_le (tgt := 269) dX7_bestOrder_261 (by decide) (fun c261 c261' => ?_) (fun c261 c261' => ?_)
              · skip
                refine j_ldc dX7_bestOrder_269 ct_X7_192 ?_
                refine j_iadd dX7_bestOrder_271 ?_
                refine j_iast (k := (dp + 1)) dX7_bestOrder_272 (a_179 hr) rfl (by omega) ?_
                refine j_iinc_2 (v := nI (dp + 1)) dX7_bestOrder_273 (nI_add _ _) rfl ?_
                refine j_aload_n dX7_bestOrder_276 rfl ?_
                refine j_getr dX7_bestOrder_277 fl_X7_46 rfl (o_165 hr) (r_165_21 hr) ?_
                refine j_iload_n dX7_bestOrder_280 rfl ?_
                refine j_iconst (v := (-1)) dX7_bestOrder_281 (by decide) ?_
                refine j_iast (k := (dp + 1)) dX7_bestOrder_282 (a_178 hr) rfl (by omega) ?_
                refine j_goto (tgt := 32) dX7_bestOrder_283 (by decide) ?_
                refine j_heap (h2 := (N, κ, ρ, (s.1, rBoP zb dp zv (rCi (jup s.2 178 dp (nI k)) (624 + 52 * dp) k)).2, ν)) (by simp only [rBoP, c261, reduceIte]) ?_
                refine lr_boA hd1 hr hp5 f (ihf f (by omega)) (dp + 1) (nI dp) (s.1, rBoP zb dp zv (rCi (jup s.2 178 dp (nI k)) (624 + 52 * dp) k)) za _ _ _ _ (by omega) (nI_m1 dp) ((rBoP_p zb dp zv (rCi (jup s.2 178 dp (nI k)) (624 + 52 * dp) k)).trans hpb) (rBoP_m zb dp zv (rCi (jup s.2 178 dp (nI k)) (624 + 52 * dp) k)) zg (fun x3 x4 x5 x6 => ?_)
                have hpa : za.2 165 3 = nI p := (rBoF_lo (by decide) (by decide) (by decide) (by decide) (Or.inr (by decide)) _ _ _ _ (Or.inl ⟨by decide, by decide⟩) zg).trans ((rBoP_p zb dp zv (rCi (jup s.2 178 dp (nI k)) (624 + 52 * dp) k)).trans hpb)
                have hka : za.2 178 dp = nI k := (rBoF_lo (by decide) (by decide) (by decide) (by decide) (Or.inl (by decide)) _ _ _ _ (Or.inr (by omega)) zg).trans ((rBoP_k zb dp zv (rCi (jup s.2 178 dp (nI k)) (624 + 52 * dp) k)).trans hkb)
                refine j_iload_n dX7_bestOrder_32 rfl ?_
                refine k_if_lt (tgt := 286) dX7_bestOrder_33 (by decide) (fun c33 c33' => ?_) (fun c33 c33' => ?_)
                · skip
                  exact absurd c33 (nI_nneg _)
                · skip
                  refine j_sipush (v := 624) dX7_bestOrder_36 (by decide) ?_
                  refine j_bipush (v := 52) dX7_bestOrder_39 (by decide) ?_
                  refine j_iload_n dX7_bestOrder_41 rfl ?_
                  refine j_imul dX7_bestOrder_42 ?_
                  refine j_iadd dX7_bestOrder_43 ?_
                  refine j_topi (w := nI (624 + 52 * dp)) (by simp only [show (624 : Int32) = nI 624 from rfl, show (52 : Int32) = nI 52 from rfl, pk_mul, nI_add]) ?_
                  refine j_istore_3 dX7_bestOrder_44 rfl ?_
                  refine j_aload_n dX7_bestOrder_45 rfl ?_
                  refine j_getr dX7_bestOrder_46 fl_X7_46 rfl (o_165 hr) (r_165_21 hr) ?_
                  refine j_iload_n dX7_bestOrder_49 rfl ?_
                  refine j_iald (k := dp) dX7_bestOrder_50 (a_178 hr) rfl (by omega) ?_
                  refine j_topi hka ?_
                  refine k_if_ge (tgt := 126) dX7_bestOrder_51 (by decide) (fun c51 c51' => ?_) (fun c51 c51' => ?_)
                  · skip
                    refine j_aload_n dX7_bestOrder_126 rfl ?_
                    refine j_getr dX7_bestOrder_127 fl_X7_46 rfl (o_165 hr) (r_165_21 hr) ?_
                    refine j_iload_n dX7_bestOrder_130 rfl ?_
                    refine j_iald (k := dp) dX7_bestOrder_131 (a_178 hr) rfl (by omega) ?_
                    refine j_topi hka ?_
                    refine j_iconst (v := 1) dX7_bestOrder_132 (by decide) ?_
                    refine j_iadd dX7_bestOrder_133 ?_
                    refine j_topi (nI_1 k) ?_
                    refine j_istore_4 dX7_bestOrder_134 rfl ?_
                    exact ihn (k + 1) dp dq za s' _ _ (by omega) hdf hdq hpa zhb K
                  · skip
                    exact absurd (nI_ge0 _) c51
              · skip
                refine j_iload dX7_bestOrder_264 rfl ?_
                refine j_goto (tgt := 271) dX7_bestOrder_266 (by decide) ?_
                refine j_iadd dX7_bestOrder_271 ?_
                refine j_iast (k := (dp + 1)) dX7_bestOrder_272 (a_179 hr) rfl (by omega) ?_
                refine j_iinc_2 (v := nI (dp + 1)) dX7_bestOrder_273 (nI_add _ _) rfl ?_
                refine j_aload_n dX7_bestOrder_276 rfl ?_
                refine j_getr dX7_bestOrder_277 fl_X7_46 rfl (o_165 hr) (r_165_21 hr) ?_
                refine j_iload_n dX7_bestOrder_280 rfl ?_
                refine j_iconst (v := (-1)) dX7_bestOrder_281 (by decide) ?_
                refine j_iast (k := (dp + 1)) dX7_bestOrder_282 (a_178 hr) rfl (by omega) ?_
                refine j_goto (tgt := 32) dX7_bestOrder_283 (by decide) ?_
                refine j_heap (h2 := (N, κ, ρ, (s.1, rBoP zb dp zv (rCi (jup s.2 178 dp (nI k)) (624 + 52 * dp) k)).2, ν)) (by simp only [rBoP, c261, reduceIte]) ?_
                refine lr_boA hd1 hr hp5 f (ihf f (by omega)) (dp + 1) (nI dp) (s.1, rBoP zb dp zv (rCi (jup s.2 178 dp (nI k)) (624 + 52 * dp) k)) za _ _ _ _ (by omega) (nI_m1 dp) ((rBoP_p zb dp zv (rCi (jup s.2 178 dp (nI k)) (624 + 52 * dp) k)).trans hpb) (rBoP_m zb dp zv (rCi (jup s.2 178 dp (nI k)) (624 + 52 * dp) k)) zg (fun x3 x4 x5 x6 => ?_)
                have hpa : za.2 165 3 = nI p := (rBoF_lo (by decide) (by decide) (by decide) (by decide) (Or.inr (by decide)) _ _ _ _ (Or.inl ⟨by decide, by decide⟩) zg).trans ((rBoP_p zb dp zv (rCi (jup s.2 178 dp (nI k)) (624 + 52 * dp) k)).trans hpb)
                have hka : za.2 178 dp = nI k := (rBoF_lo (by decide) (by decide) (by decide) (by decide) (Or.inl (by decide)) _ _ _ _ (Or.inr (by omega)) zg).trans ((rBoP_k zb dp zv (rCi (jup s.2 178 dp (nI k)) (624 + 52 * dp) k)).trans hkb)
                refine j_iload_n dX7_bestOrder_32 rfl ?_
                refine k_if_lt (tgt := 286) dX7_bestOrder_33 (by decide) (fun c33 c33' => ?_) (fun c33 c33' => ?_)
                · skip
                  exact absurd c33 (nI_nneg _)
                · skip
                  refine j_sipush (v := 624) dX7_bestOrder_36 (by decide) ?_
                  refine j_bipush (v := 52) dX7_bestOrder_39 (by decide) ?_
                  refine j_iload_n dX7_bestOrder_41 rfl ?_
                  refine j_imul dX7_bestOrder_42 ?_
                  refine j_iadd dX7_bestOrder_43 ?_
                  refine j_topi (w := nI (624 + 52 * dp)) (by simp only [show (624 : Int32) = nI 624 from rfl, show (52 : Int32) = nI 52 from rfl, pk_mul, nI_add]) ?_
                  refine j_istore_3 dX7_bestOrder_44 rfl ?_
                  refine j_aload_n dX7_bestOrder_45 rfl ?_
                  refine j_getr dX7_bestOrder_46 fl_X7_46 rfl (o_165 hr) (r_165_21 hr) ?_
                  refine j_iload_n dX7_bestOrder_49 rfl ?_
                  refine j_iald (k := dp) dX7_bestOrder_50 (a_178 hr) rfl (by omega) ?_
                  refine j_topi hka ?_
                  refine k_if_ge (tgt := 126) dX7_bestOrder_51 (by decide) (fun c51 c51' => ?_) (fun c51 c51' => ?_)
                  · skip
                    refine j_aload_n dX7_bestOrder_126 rfl ?_
                    refine j_getr dX7_bestOrder_127 fl_X7_46 rfl (o_165 hr) (r_165_21 hr) ?_
                    refine j_iload_n dX7_bestOrder_130 rfl ?_
                    refine j_iald (k := dp) dX7_bestOrder_131 (a_178 hr) rfl (by omega) ?_
                    refine j_topi hka ?_
                    refine j_iconst (v := 1) dX7_bestOrder_132 (by decide) ?_
                    refine j_iadd dX7_bestOrder_133 ?_
                    refine j_topi (nI_1 k) ?_
                    refine j_istore_4 dX7_bestOrder_134 rfl ?_
                    exact ihn (k + 1) dp dq za s' _ _ (by omega) hdf hdq hpa zhb K
                  · skip
                    exact absurd (nI_ge0 _) c51
            · skip
              exact absurd c205 (by rw [hp1]; exact nI_ne (by omega) (by omega) (by omega))
          · skip
            refine j_iinc_4 (v := nI (k + 1)) dX7_bestOrder_185 (nI_add _ _) rfl ?_
            refine j_goto (tgt := 136) dX7_bestOrder_188 (by decide) ?_
            rw [if_neg (fun z => c182 z.2.2)] at zhb
            exact ihn (k + 1) dp dq s s' _ _ (by omega) hdf hdq hp zhb K

set_option maxRecDepth 20000 in
theorem r_bo {G : jG} {N : Nat} {κ : Nat → jK} {ρ : Nat → Nat → Option Nat} {μ : Nat → Nat → Int32} {ν : Nat → Nat → Int64} (hr : shR N κ ρ) {p : Nat} (hp : μ 165 3 = nI p) (hp5 : p ≤ 5) {zv : Int32} {zm : jMem} (zhb : rBo μ p = some (zv, zm)) : MT G yX7_bestOrder cX7_bestOrder 7 (some .int) 5 0 0 [.ref 165] (N, κ, ρ, μ, ν) (some (.int zv)) (N, κ, ρ, zm, ν) := by
  refine jMT (ini := false) my_X7_bestOrder (fun h => by cases h) (jRv_i _) (Nat.le_of_ble_eq_true rfl) ?_
  show J G RX7 cX7_bestOrder 7 false 5 _ 0 0 (N, κ, ρ, μ, ν) 0 [some (.ref 165), none, none, none, none, none, none] []
  generalize hQe : (fun (v' : Option Value) (h'' : jH) => v' = (some (.int zv)) ∧ h'' = (N, κ, ρ, zm, ν)) = Q
  have hQ : Q (some (.int zv)) (N, κ, ρ, zm, ν) := by rw [← hQe]; exact ⟨rfl, rfl⟩
  clear hQe
  refine j_ldc dX7_bestOrder_0 ct_X7_192 ?_
  refine j_istore_1 dX7_bestOrder_2 rfl ?_
  refine j_aload_n dX7_bestOrder_3 rfl ?_
  refine j_iconst (v := 0) dX7_bestOrder_4 (by decide) ?_
  refine j_puti dX7_bestOrder_5 fl_X7_193 rfl (o_165 hr) ?_
  refine j_iconst (v := 0) dX7_bestOrder_8 (by decide) ?_
  refine j_istore_2 dX7_bestOrder_9 rfl ?_
  refine j_aload_n dX7_bestOrder_10 rfl ?_
  refine j_iconst (v := 0) dX7_bestOrder_11 (by decide) ?_
  refine j_sipush (v := 624) dX7_bestOrder_12 (by decide) ?_
  refine j_cV2v dX7_bestOrder_15 (r_copy (f := 0) (t := 624) hr (by omega) (by omega)) ml_X7_153 my_X7_copy mi_X7_copy (o_165 hr) rfl (by omega) (Nat.le_of_ble_eq_true rfl) (Nat.le_of_ble_eq_true rfl) ?_
  refine j_aload_n dX7_bestOrder_18 rfl ?_
  refine j_getr dX7_bestOrder_19 fl_X7_46 rfl (o_165 hr) (r_165_21 hr) ?_
  refine j_iconst (v := 0) dX7_bestOrder_22 (by decide) ?_
  refine j_iconst (v := (-1)) dX7_bestOrder_23 (by decide) ?_
  refine j_iast (k := 0) dX7_bestOrder_24 (a_178 hr) rfl (by omega) ?_
  refine j_aload_n dX7_bestOrder_25 rfl ?_
  refine j_getr dX7_bestOrder_26 fl_X7_49 rfl (o_165 hr) (r_165_22 hr) ?_
  refine j_iconst (v := 0) dX7_bestOrder_29 (by decide) ?_
  refine j_iconst (v := 0) dX7_bestOrder_30 (by decide) ?_
  refine j_iast (k := 0) dX7_bestOrder_31 (a_179 hr) rfl (by omega) ?_
  refine lr_boA (by omega) hr hp5 10 (lr_boB (by omega) hr hp5 10) 0 (-1) (1000000, jup (jup (rCopy (jup μ 165 24 0) 0 624) 178 0 (-1)) 179 0 0) (zv, zm) _ _ _ _ (by omega) (by decide) (by show jup (jup (rCopy (jup μ 165 24 0) 0 624) 178 0 (-1)) 179 0 0 165 3 = _; rw [jup_oth (by decide), jup_oth (by decide), rCopy_lo _ _ _ (by decide), jup_oth2 (by decide)]; exact hp) (by show jup (jup (rCopy (jup μ 165 24 0) 0 624) 178 0 (-1)) 179 0 0 178 0 = _; rw [jup_oth (by decide), jup_self]) zhb (fun x3 x4 x5 x6 => ?_)
  refine j_iload_n dX7_bestOrder_32 rfl ?_
  refine k_if_lt (tgt := 286) dX7_bestOrder_33 (by decide) (fun c33 c33' => ?_) (fun c33 c33' => ?_)
  · skip
    refine j_iload_n dX7_bestOrder_286 rfl ?_
    exact j_iret dX7_bestOrder_287 hQ
  · skip
    exact absurd (by decide) c33

def rOrder (m : jMem) (i : Int32) (p : Nat) : Option (Int32 × jMem) :=
  if rIn i.toInt64 (-1) 9 = true then (rBo m p).map (fun q => (if q.1 < 1000000 then (if 0 ≤ i then (if i < q.2 165 24 then q.2 180 i.toNatClampNeg else -4) else q.1) else -4, q.2)) else some (-1, m)
