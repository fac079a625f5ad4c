/-- a walk over i, i+1, ... that may come out without an answer -/
def itO {S : Type} (f : Nat → S → Option S) : Nat → Nat → S → Option S
  | 0, _, s => some s
  | n + 1, i, s => (f i s).bind (itO f n (i + 1))
def rStep (r : Nat) (g : Nat → jMem → Nat → Option jMem) (dp by' : Nat) (j : Nat) (m : jMem) : Option jMem :=
  if 0 < jup m 177 dp (nI (j + 1)) 166 (r + 27 + 5 * by' + j) ∧ rSt (jup m 177 dp (nI (j + 1))) r j = true ∧ jup m 177 dp (nI (j + 1)) 166 (r + 2 + j) ≤ 0 then g (dp + 1) (jup m 177 dp (nI (j + 1))) j else some (jup m 177 dp (nI (j + 1)))
def rFl (r p : Nat) : Nat → Bool → Nat → jMem → Nat → Option jMem
  | 0, _, _, _, _ => none
  | f + 1, b, dp, m, k => if (rFell m r k b p).1 = true then itO (rStep r (rFl r p f true) dp k) p 0 (jup (jup (rFell m r k b p).2 176 dp (nI k)) 177 dp 0) else some (rFell m r k b p).2
theorem itO_lo {f : Nat → jMem → Option jMem} {x y : Nat} (h : ∀ i m m', f i m = some m' → m' x y = m x y) : ∀ n i m m', itO f n i m = some m' → m' x y = m x y
  | 0, _, _, _, e => by rw [itO] at e; cases e; rfl
  | n + 1, i, m, m', e => by
    rw [itO] at e
    cases q : f i m with
    | none => rw [q] at e; cases e
    | some a => rw [q] at e; exact (itO_lo h n (i + 1) a m' e).trans (h i m a q)
theorem rFl_lo {r p x y : Nat} (hx : x ≠ 166) : ∀ (f : Nat) (b : Bool) (dp : Nat) (m : jMem) (k : Nat) (m' : jMem), ((x ≠ 176 ∧ x ≠ 177) ∨ y < dp) → rFl r p f b dp m k = some m' → m' x y = m x y
  | 0, _, _, _, _, _, _, e => by rw [rFl] at e; cases e
  | f + 1, b, dp, m, k, m', hy, e => by
    rw [rFl] at e
    have j1 : ∀ (a : jMem) (v : Int32), jup a 177 dp v x y = a x y := fun a v => by
      rcases hy with z | z
      · exact jup_oth z.2
      · exact jup_oth2 (by omega)
    have j2 : ∀ (a : jMem) (v : Int32), jup a 176 dp v x y = a x y := fun a v => by
      rcases hy with z | z
      · exact jup_oth z.1
      · exact jup_oth2 (by omega)
    split at e
    · rw [itO_lo (x := x) (y := y) ?_ _ _ _ _ e, j1, j2, rFell_lo _ _ _ _ _ hx]
      intro i a a' q
      rw [rStep] at q
      split at q
      · rw [rFl_lo hx f true (dp + 1) _ i a' (by omega) q, j1]
      · cases q; rw [j1]
    · cases e; exact rFell_lo _ _ _ _ _ hx
theorem nI_sub1 (n : Nat) : nI (n + 1) - 1 = nI n := nI_predS (Nat.succ_pos n)
theorem nI_m1 (n : Nat) : nI (n + 1) + Int32.ofInt (-1) = nI n := by
  rw [← nI_sub1 n, Int32.sub_eq_add_neg]; rfl
theorem nI_pos1 {n : Nat} (h : n + 1 < 2 ^ 31) : ¬ nI (n + 1) ≤ 0 := by
  rw [Int32.le_iff_toInt_le, nI_toInt h]
  have : (0 : Int32).toInt = 0 := by decide
  omega
theorem nI_ne {a b : Nat} (h : a ≠ b) (ha : a < 2 ^ 31) (hb : b < 2 ^ 31) : ¬ nI a = nI b := fun e => h (by
  have := congrArg Int32.toInt e
  rw [nI_toInt ha, nI_toInt hb] at this
  omega)
set_option maxRecDepth 20000 in
theorem lr_fl {G : jG} {N : Nat} {κ : Nat → jK} {ρ : Nat → Nat → Option Nat} {ν : Nat → Nat → Int64} {Q : Option Value → jH → Prop} {d : Nat} (hd1 : 2 ≤ d) {r p : Nat} {x2 x3 : Int32} (hr : shR N κ ρ) (hrr : r + 52 ≤ 1196) (hp5 : p ≤ 5) (f : Nat) : ∀ (n j dp k : Nat) (m m' : jMem) (x5 x6 : Option Value), n + j = p → dp + f ≤ 14 → k < 5 → m 165 3 = nI p → m 176 dp = nI k → m 177 dp = nI j → itO (rStep r (rFl r p f true) dp k) n j m = some m' → (∀ y5 y6, J G RX7 cX7_falls 7 false d Q 0 0 (N, κ, ρ, m', ν) 30 [some (.ref 165), some (.int (nI r)), some (.int x2), some (.int x3), some (.int (nI dp)), y5, y6] []) → J G RX7 cX7_falls 7 false d Q 0 0 (N, κ, ρ, m, ν) 30 [some (.ref 165), some (.int (nI r)), some (.int x2), some (.int x3), some (.int (nI (dp + 1))), x5, x6] [] := by
  induction f using Nat.strongRecOn with
  | _ f ihf =>
  intro n
  induction n with
  | zero =>
    intro j dp k m m' x5 x6 hn hdp hk hp hby hj e K
    rw [itO] at e
    cases e
    refine j_iload dX7_falls_30 rfl ?_
    refine k_if_le (tgt := 163) dX7_falls_32 (by decide) (fun c32 c32' => ?_) (fun c32 c32' => ?_)
    · skip
      exact absurd c32 (nI_pos1 (by omega))
    · skip
      refine j_aload_n dX7_falls_35 rfl ?_
      refine j_getr dX7_falls_36 fl_X7_40 rfl (o_165 hr) (r_165_19 hr) ?_
      refine j_iload dX7_falls_39 rfl ?_
      refine j_iconst (v := 1) dX7_falls_41 (by decide) ?_
      refine j_isub dX7_falls_42 ?_
      refine j_topi (w := nI dp) (nI_sub1 dp) ?_
      refine j_iald (k := dp) dX7_falls_43 (a_176 hr) rfl (by omega) ?_
      refine j_topi hby ?_
      refine j_istore_5 dX7_falls_44 rfl ?_
      refine j_aload_n dX7_falls_46 rfl ?_
      refine j_getr dX7_falls_47 fl_X7_43 rfl (o_165 hr) (r_165_20 hr) ?_
      refine j_iload dX7_falls_50 rfl ?_
      refine j_iconst (v := 1) dX7_falls_52 (by decide) ?_
      refine j_isub dX7_falls_53 ?_
      refine j_topi (w := nI dp) (nI_sub1 dp) ?_
      refine j_iald (k := dp) dX7_falls_54 (a_177 hr) rfl (by omega) ?_
      refine j_topi hj ?_
      refine j_istore_6 dX7_falls_55 rfl ?_
      refine j_iload dX7_falls_57 rfl ?_
      refine j_aload_n dX7_falls_59 rfl ?_
      refine j_geti dX7_falls_60 fl_X7_69 rfl (o_165 hr) ?_
      refine j_icmp_ne (tgt := 72) dX7_falls_63 (by decide) (fun c63 => ?_) (fun c63 => ?_)
      · skip
        exact absurd (by rw [hp, show j = p by omega]) c63
      · skip
        refine j_iinc_4 (v := nI dp) dX7_falls_66 (nI_m1 dp) rfl ?_
        refine j_goto (tgt := 160) dX7_falls_69 (by decide) ?_
        refine j_goto (tgt := 30) dX7_falls_160 (by decide) ?_
        exact K _ _
  | succ n ihn =>
    intro j dp k m m' x5 x6 hn hdp hk hp hby hj e K
    rw [itO, rStep] at e
    have hjp : j < p := by omega
    have e84 : m 177 dp + 1 = nI (j + 1) := by rw [hj, nI_1]
    have hp1 : jup m 177 dp (nI (j + 1)) 165 3 = nI p := by rw [jup_oth (by decide)]; exact hp
    have hby1 : jup m 177 dp (nI (j + 1)) 176 dp = nI k := by rw [jup_oth (by decide)]; exact hby
    have hj1 : jup m 177 dp (nI (j + 1)) 177 dp = nI (j + 1) := jup_self _ _ _ _
    refine j_iload dX7_falls_30 rfl ?_
    refine k_if_le (tgt := 163) dX7_falls_32 (by decide) (fun c32 c32' => ?_) (fun c32 c32' => ?_)
    · skip
      exact absurd c32 (nI_pos1 (by omega))
    · skip
      refine j_aload_n dX7_falls_35 rfl ?_
      refine j_getr dX7_falls_36 fl_X7_40 rfl (o_165 hr) (r_165_19 hr) ?_
      refine j_iload dX7_falls_39 rfl ?_
      refine j_iconst (v := 1) dX7_falls_41 (by decide) ?_
      refine j_isub dX7_falls_42 ?_
      refine j_topi (w := nI dp) (nI_sub1 dp) ?_
      refine j_iald (k := dp) dX7_falls_43 (a_176 hr) rfl (by omega) ?_
      refine j_topi hby ?_
      refine j_istore_5 dX7_falls_44 rfl ?_
      refine j_aload_n dX7_falls_46 rfl ?_
      refine j_getr dX7_falls_47 fl_X7_43 rfl (o_165 hr) (r_165_20 hr) ?_
      refine j_iload dX7_falls_50 rfl ?_
      refine j_iconst (v := 1) dX7_falls_52 (by decide) ?_
      refine j_isub dX7_falls_53 ?_
      refine j_topi (w := nI dp) (nI_sub1 dp) ?_
      refine j_iald (k := dp) dX7_falls_54 (a_177 hr) rfl (by omega) ?_
      refine j_topi hj ?_
      refine j_istore_6 dX7_falls_55 rfl ?_
      refine j_iload dX7_falls_57 rfl ?_
      refine j_aload_n dX7_falls_59 rfl ?_
      refine j_geti dX7_falls_60 fl_X7_69 rfl (o_165 hr) ?_
      refine j_icmp_ne (tgt := 72) dX7_falls_63 (by decide) (fun c63 => ?_) (fun c63 => ?_)
      · skip
        refine j_aload_n dX7_falls_72 rfl ?_
        refine j_getr dX7_falls_73 fl_X7_43 rfl (o_165 hr) (r_165_20 hr) ?_
        refine j_iload dX7_falls_76 rfl ?_
        refine j_iconst (v := 1) dX7_falls_78 (by decide) ?_
        refine j_isub dX7_falls_79 ?_
        refine j_topi (w := nI dp) (nI_sub1 dp) ?_
        refine j_dup2 dX7_falls_80 rfl rfl ?_
        refine j_iald (k := dp) dX7_falls_81 (a_177 hr) rfl (by omega) ?_
        refine j_iconst (v := 1) dX7_falls_82 (by decide) ?_
        refine j_iadd dX7_falls_83 ?_
        refine j_iast (k := dp) dX7_falls_84 (a_177 hr) rfl (by omega) ?_
        rw [e84]
        refine j_aload_n dX7_falls_85 rfl ?_
        refine j_getr dX7_falls_86 fl_X7_7 rfl (o_165 hr) (r_165_0 hr) ?_
        refine j_iload_n dX7_falls_89 rfl ?_
        refine j_bipush (v := 27) dX7_falls_90 (by decide) ?_
        refine j_iadd dX7_falls_92 ?_
        refine j_iconst (v := 5) dX7_falls_93 (by decide) ?_
        refine j_iload dX7_falls_94 rfl ?_
        refine j_imul dX7_falls_96 ?_
        refine j_iadd dX7_falls_97 ?_
        refine j_iload dX7_falls_98 rfl ?_
        refine j_iadd dX7_falls_100 ?_
        refine j_iald (k := (((r + 27) + (5 * k)) + j)) dX7_falls_101 (a_166 hr) (by simp only [jl5, jl27, nI_add, pk_mul]) (by omega) ?_
        refine k_if_le (tgt := 160) dX7_falls_102 (by decide) (fun c102 c102' => ?_) (fun c102 c102' => ?_)
        · skip
          refine j_goto (tgt := 30) dX7_falls_160 (by decide) ?_
          rw [if_neg (fun z => c102' z.1)] at e
          exact ihn (j + 1) dp k _ m' _ _ (by omega) (by omega) hk hp1 hby1 hj1 e K
        · skip
          refine j_aload_n dX7_falls_105 rfl ?_
          refine j_iload_n dX7_falls_106 rfl ?_
          refine j_iload dX7_falls_107 rfl ?_
          refine j_cV2r dX7_falls_109 (r_stands (r := r) (k := j) hr (by omega) (by omega)) ml_X7_138 my_X7_stands mi_X7_stands (o_165 hr) rfl (by omega) (Nat.le_of_ble_eq_true rfl) (Nat.le_of_ble_eq_true rfl) ?_
          refine j_if_eqB (tgt := 160) dX7_falls_112 (by decide) (fun c112 => ?_) (fun c112 => ?_)
          · skip
            refine j_goto (tgt := 30) dX7_falls_160 (by decide) ?_
            rw [if_neg (fun z => by rw [z.2.1] at c112; cases c112)] at e
            exact ihn (j + 1) dp k _ m' _ _ (by omega) (by omega) hk hp1 hby1 hj1 e K
          · skip
            refine j_aload_n dX7_falls_115 rfl ?_
            refine j_getr dX7_falls_116 fl_X7_7 rfl (o_165 hr) (r_165_0 hr) ?_
            refine j_iload_n dX7_falls_119 rfl ?_
            refine j_iconst (v := 2) dX7_falls_120 (by decide) ?_
            refine j_iadd dX7_falls_121 ?_
            refine j_iload dX7_falls_122 rfl ?_
            refine j_iadd dX7_falls_124 ?_
            refine j_iald (k := ((r + 2) + j)) dX7_falls_125 (a_166 hr) (by simp only [jl2, nI_add, pk_mul]) (by omega) ?_
            refine k_if_gt (tgt := 160) dX7_falls_126 (by decide) (fun c126 c126' => ?_) (fun c126 c126' => ?_)
            · skip
              refine j_goto (tgt := 30) dX7_falls_160 (by decide) ?_
              rw [if_neg (fun z => c126' z.2.2)] at e
              exact ihn (j + 1) dp k _ m' _ _ (by omega) (by omega) hk hp1 hby1 hj1 e K
            · skip
              refine j_aload_n dX7_falls_129 rfl ?_
              refine j_iload_n dX7_falls_130 rfl ?_
              refine j_iload dX7_falls_131 rfl ?_
              refine j_iconst (v := 1) dX7_falls_133 (by decide) ?_
              obtain ⟨f, rfl⟩ : ∃ g, f = g + 1 := by cases f with | zero => (rw [if_pos ⟨c102', c112, c126'⟩, rFl] at e; cases e) | succ g => exact ⟨g, rfl⟩
              rw [if_pos ⟨c102', c112, c126'⟩, rFl] at e
              refine j_cV3r dX7_falls_134 (r_fell (b := true) hr hrr hp1 hp5 (by omega : j < 5)) ml_X7_142 my_X7_fellsOne mi_X7_fellsOne (o_165 hr) rfl (by omega) (Nat.le_of_ble_eq_true rfl) (Nat.le_of_ble_eq_true rfl) ?_
              refine j_if_eqB (tgt := 160) dX7_falls_137 (by decide) (fun c137 => ?_) (fun c137 => ?_)
              · skip
                rw [if_neg (by rw [c137]; decide)] at e
                refine j_goto (tgt := 30) dX7_falls_160 (by decide) ?_
                exact ihn (j + 1) dp k _ m' _ _ (by omega) (by omega) hk ((rFell_lo _ _ _ _ _ (by decide)).trans hp1) ((rFell_lo _ _ _ _ _ (by decide)).trans hby1) ((rFell_lo _ _ _ _ _ (by decide)).trans hj1) e K
              · skip
                rw [if_pos c137] at e
                refine j_aload_n dX7_falls_140 rfl ?_
                refine j_getr dX7_falls_141 fl_X7_40 rfl (o_165 hr) (r_165_19 hr) ?_
                refine j_iload dX7_falls_144 rfl ?_
                refine j_iload dX7_falls_146 rfl ?_
                refine j_iast (k := (dp + 1)) dX7_falls_148 (a_176 hr) rfl (by omega) ?_
                refine j_aload_n dX7_falls_149 rfl ?_
                refine j_getr dX7_falls_150 fl_X7_43 rfl (o_165 hr) (r_165_20 hr) ?_
                refine j_iload dX7_falls_153 rfl ?_
                refine j_iconst (v := 0) dX7_falls_155 (by decide) ?_
                refine j_iast (k := (dp + 1)) dX7_falls_156 (a_177 hr) rfl (by omega) ?_
                refine j_iinc_4 (v := nI ((dp + 1) + 1)) dX7_falls_157 (nI_add _ _) rfl ?_
                refine j_goto (tgt := 30) dX7_falls_160 (by decide) ?_
                cases q : itO (rStep r (rFl r p f true) (dp + 1) j) p 0 (jup (jup (rFell (jup m 177 dp (nI (j + 1))) r j true p).2 176 (dp + 1) (nI j)) 177 (dp + 1) 0) with
                | none => rw [q] at e; cases e
                | some a =>
                  rw [q] at e
                  have ql : rFl r p (f + 1) true (dp + 1) (jup m 177 dp (nI (j + 1))) j = some a := by rw [rFl, if_pos c137]; exact q
                  refine ihf f (by omega) p 0 (dp + 1) j _ a _ _ (by omega) (by omega) (by omega) ?_ ?_ (jup_self _ _ _ _) q (fun y5 y6 => ihn (j + 1) dp k a m' _ _ (by omega) (by omega) hk ?_ ?_ ?_ e K)
                  · rw [jup_oth (by decide), jup_oth (by decide), rFell_lo _ _ _ _ _ (by decide)]; exact hp1
                  · rw [jup_oth (by decide), jup_self]
                  · exact (rFl_lo (by decide) _ _ _ _ _ _ (Or.inl ⟨by decide, by decide⟩) ql).trans hp1
                  · exact (rFl_lo (by decide) _ _ _ _ _ _ (Or.inr (by omega)) ql).trans hby1
                  · exact (rFl_lo (by decide) _ _ _ _ _ _ (Or.inr (by omega)) ql).trans hj1
      · skip
        exact absurd c63 (by rw [hp]; exact nI_ne (by omega) (by omega) (by omega))

set_option maxRecDepth 20000 in
theorem r_falls {G : jG} {N : Nat} {κ : Nat → jK} {ρ : Nat → Nat → Option Nat} {μ : Nat → Nat → Int32} {ν : Nat → Nat → Int64} {r p : Nat} {m' : jMem} {k : Nat} {b : Bool} (hr : shR N κ ρ) (hrr : r + 52 ≤ 1196) (hp : μ 165 3 = nI p) (hp5 : p ≤ 5) (hk : k < 5) (hf : rFl r p 6 b 0 μ k = some m') : MT G yX7_falls cX7_falls 7 none 2 0 0 [.ref 165, .int (nI r), .int (nI k), .int (jb b)] (N, κ, ρ, μ, ν) none (N, κ, ρ, m', ν) := by
  refine jMT (ini := false) my_X7_falls (fun h => by cases h) jRv_v (Nat.le_of_ble_eq_true rfl) ?_
  show J G RX7 cX7_falls 7 false 2 _ 0 0 (N, κ, ρ, μ, ν) 0 [some (.ref 165), some (.int (nI r)), some (.int (nI k)), some (.int (jb b)), none, none, none] []
  refine j_iconst (v := 0) dX7_falls_0 (by decide) ?_
  refine j_istore_4 dX7_falls_1 rfl ?_
  refine j_aload_n dX7_falls_3 rfl ?_
  refine j_iload_n dX7_falls_4 rfl ?_
  refine j_iload_n dX7_falls_5 rfl ?_
  refine j_iload_n dX7_falls_6 rfl ?_
  refine j_cV3r dX7_falls_7 (r_fell (b := b) hr hrr hp hp5 hk) ml_X7_142 my_X7_fellsOne mi_X7_fellsOne (o_165 hr) rfl (by omega) (Nat.le_of_ble_eq_true rfl) (Nat.le_of_ble_eq_true rfl) ?_
  refine j_if_eqB (tgt := 30) dX7_falls_10 (by decide) (fun c10 => ?_) (fun c10 => ?_)
  · skip
    rw [rFl, if_neg (by rw [c10]; decide)] at hf
    cases hf
    refine j_iload dX7_falls_30 rfl ?_
    refine k_if_le (tgt := 163) dX7_falls_32 (by decide) (fun c32 c32' => ?_) (fun c32 c32' => ?_)
    · skip
      exact j_vret dX7_falls_163 ⟨rfl, rfl⟩
    · skip
      exact absurd (by decide) c32
  · skip
    rw [rFl, if_pos c10] at hf
    refine j_aload_n dX7_falls_13 rfl ?_
    refine j_getr dX7_falls_14 fl_X7_40 rfl (o_165 hr) (r_165_19 hr) ?_
    refine j_iconst (v := 0) dX7_falls_17 (by decide) ?_
    refine j_iload_n dX7_falls_18 rfl ?_
    refine j_iast (k := 0) dX7_falls_19 (a_176 hr) rfl (by omega) ?_
    refine j_aload_n dX7_falls_20 rfl ?_
    refine j_getr dX7_falls_21 fl_X7_43 rfl (o_165 hr) (r_165_20 hr) ?_
    refine j_iconst (v := 0) dX7_falls_24 (by decide) ?_
    refine j_iconst (v := 0) dX7_falls_25 (by decide) ?_
    refine j_iast (k := 0) dX7_falls_26 (a_177 hr) rfl (by omega) ?_
    refine j_iconst (v := 1) dX7_falls_27 (by decide) ?_
    refine j_istore_4 dX7_falls_28 rfl ?_
    refine lr_fl (by omega) hr hrr hp5 5 p 0 0 k _ m' _ _ (by omega) (by omega) hk (by rw [jup_oth (by decide), jup_oth (by decide), rFell_lo _ _ _ _ _ (by decide)]; exact hp) (by rw [jup_oth (by decide), jup_self]) (jup_self _ _ _ _) hf (fun y5 y6 => ?_)
    refine j_iload dX7_falls_30 rfl ?_
    refine k_if_le (tgt := 163) dX7_falls_32 (by decide) (fun c32 c32' => ?_) (fun c32 c32' => ?_)
    · skip
      exact j_vret dX7_falls_163 ⟨rfl, rfl⟩
    · skip
      exact absurd (by decide) c32

def rBl (m : jMem) (r k : Nat) (n : Int32) (p : Nat) : Option (Int32 × jMem) :=
  if rWF m r k n = true then (rFl r p 6 (decide (m 169 k ≤ m 166 (r + 12 + k))) 0 m k).map (fun a => (if m 169 k ≤ m 166 (r + 12 + k) then 1 else 2, a))
  else some (0, jup (jup m 166 (r + 2 + k) (if m 166 (r + 2 + k) - n < 1 then 1 else m 166 (r + 2 + k) - n)) 166 (r + 12 + k) 0)
